def C_X1_goneFrom (l : Launch) (g : AG) (h : AH) (x0 : Nat) (x1 : Nat) (x2 : Int32)  (Q : Int32 → AH → Prop) : Prop := Ct l g mX1_goneFrom 4 101 194 194 h [.ref x0, .ref x1, .int x2] (ax_QI Q)
def L_X1_goneFrom_0 (l : Launch) (g : AG) (h : AH) (x0 : Nat) (x1 : Nat) (x2 : Int32)  (Q : Int32 → AH → Prop) : Prop := Wp l g mX1_goneFrom 4 101 194 194 194 0 [(0, .ref x0), (1, .ref x1), (2, .int x2)] [] h (FM g 194 194 (ax_QI Q))
def L_X1_goneFrom_13 (l : Launch) (g : AG) (h : AH) (x0 : Nat) (x1 : Nat) (x2 : Int32) (x3 : Int64) (x5 : Int32)  (Q : Int32 → AH → Prop) : Prop := Wp l g mX1_goneFrom 4 101 194 194 194 13 [(0, .ref x0), (1, .ref x1), (2, .int x2), (3, .long x3), (5, .int x5)] [] h (FM g 194 194 (ax_QI Q))
def L_X1_goneFrom_62 (l : Launch) (g : AG) (h : AH) (x0 : Nat) (x1 : Nat) (x2 : Int32) (x3 : Int64) (x5 : Int32) (x6 : Int32)  (Q : Int32 → AH → Prop) : Prop := Wp l g mX1_goneFrom 4 101 194 194 194 62 [(0, .ref x0), (1, .ref x1), (2, .int x2), (3, .long x3), (5, .int x5), (6, .int x6)] [] h (FM g 194 194 (ax_QI Q))
set_option maxRecDepth 100000 in
set_option maxHeartbeats 4000000 in
theorem s_X1_goneFrom_0 {l : Launch} {g : AG} {h : AH} {x0 : Nat} {x1 : Nat} {x2 : Int32}  {Q : Int32 → AH → Prop} (hb : (Is 194 x0 1) ∧ ( (Is 194 (h.2.2 x0 2) 5) ∧ ( (Is 194 (h.2.2 (h.2.2 x0 2) 1) 21) ∧ ( (vp_in x2 (ax_s (h.2.2 (h.2.2 x0 2) 1)).2) ∧ ( ∀ v5 : Int64, v5 = (h.2.1 (h.2.2 (h.2.2 x0 2) 1) x2.toNatClampNeg) → ( L_X1_goneFrom_13 l g h x0 x1 x2 v5 0  Q)))))) : L_X1_goneFrom_0 l g h x0 x1 x2  Q := by
  obtain ⟨i1, hb⟩ := hb
  refine wp_aload_n 0 dX1_goneFrom_0 rfl rfl ?_
  obtain ⟨i2, hb⟩ := hb
  refine wp_getR dX1_goneFrom_1 fl_X1_18 i1 (i2.ne (by decide)) ?_
  obtain ⟨i3, hb⟩ := hb
  refine wp_getR dX1_goneFrom_4 fl_X1_73 i2 (i3.ne (by decide)) ?_
  refine wp_iload_n 2 dX1_goneFrom_7 rfl rfl ?_
  obtain ⟨b4, hb⟩ := hb
  refine wp_laload dX1_goneFrom_8 i3 b4 ?_
  refine wp_topl (fun v5 e6 => ?_)
  have hb := hb v5 e6
  refine wp_lstore_n (lv2 := [(3, .long v5), (0, .ref x0), (1, .ref x1), (2, .int x2)]) dX1_goneFrom_9 rfl (by decide) rfl ?_
  refine wp_iconst (v := 0) dX1_goneFrom_10 (by decide) ?_
  refine wp_istore (lv2 := [(5, .int 0), (3, .long v5), (0, .ref x0), (1, .ref x1), (2, .int x2)]) dX1_goneFrom_11 (by decide) rfl ?_
  exact wp_sub [2, 3, 4, 1, 0] rfl hb
set_option maxRecDepth 100000 in
set_option maxHeartbeats 4000000 in
theorem s_X1_goneFrom_13 {l : Launch} {g : AG} {h : AH} {x0 : Nat} {x1 : Nat} {x2 : Int32} {x3 : Int64} {x5 : Int32}  {Q : Int32 → AH → Prop} (hb : ((27 ≤ x5 → (Q 1 h)) ∧ (¬ (27 ≤ x5) → ((Is 194 x1 0) ∧ ( C_X0_possible l g h x1 x3 x5 (fun r11 h10 => ( ((r11 = 0 → (L_X1_goneFrom_62 l g h10 x0 x1 x2 x3 x5 (-2)  Q)) ∧ (¬ (r11 = 0) → ((Is 194 x0 1) ∧ ( (Is 194 (h10.2.2 x0 2) 5) ∧ ( C_X0_after l g h10 x1 x3 x5 (fun r17 h16 => ( C_X6_meet l g h16 (h10.2.2 x0 2) r17 0 x2 x5 (fun r20 h19 => ( ((¬ r20 = (-1) → (L_X1_goneFrom_62 l g h19 x0 x1 x2 x3 x5 r20  Q)) ∧ (r20 = (-1) → (Q 0 h19))))))))))))))))))) : L_X1_goneFrom_13 l g h x0 x1 x2 x3 x5  Q := by
  refine wp_iload 4 dX1_goneFrom_13 rfl ?_
  refine wp_bipush (v := 27) dX1_goneFrom_15 (by decide) ?_
  refine wp_icmp_ge (tgt := 82) dX1_goneFrom_17 (by decide) (fun c7 => ?_) (fun c7 => ?_)
  · have hb := hb.1 c7
    refine wp_iconst (v := 1) dX1_goneFrom_82 (by decide) ?_
    exact wp_zret rfl dX1_goneFrom_83 (Or.inr rfl) ⟨_, rfl, hb⟩
  · have hb := hb.2 c7
    refine wp_bipush (v := (-2)) dX1_goneFrom_20 (by decide) ?_
    refine wp_istore (lv2 := [(6, .int (-2)), (0, .ref x0), (1, .ref x1), (2, .int x2), (3, .long x3), (5, .int x5)]) dX1_goneFrom_22 (by decide) rfl ?_
    obtain ⟨i8, hb⟩ := hb
    refine wp_aload_n 2 dX1_goneFrom_24 rfl rfl ?_
    refine wp_lload_n 4 dX1_goneFrom_25 rfl rfl ?_
    refine wp_iload 5 dX1_goneFrom_26 rfl ?_
    refine wp_callVN (as := [.long x3, .int x5]) dX1_goneFrom_28 cb_X0_possible lk_X1_77 im_X0_possible se_X0_possible rfl (Nat.le_of_ble_eq_true rfl) ⟨by decide, by decide⟩ ⟨Nat.le_refl _, Nat.le_refl _, Nat.le_refl _⟩ i8 rfl (by decide) hb (fun r0 h10 hb => ?_)
    obtain ⟨r11, rfl, hb⟩ := hb
    refine wp_if_eq (tgt := 62) dX1_goneFrom_31 (by decide) (fun c12 => ?_) (fun c12 => ?_)
    · have hb := hb.1 c12
      exact wp_sub [1, 2, 3, 4, 5, 0] rfl hb
    · have hb := hb.2 c12
      obtain ⟨i13, hb⟩ := hb
      refine wp_aload_n 1 dX1_goneFrom_34 rfl rfl ?_
      obtain ⟨i14, hb⟩ := hb
      refine wp_getR dX1_goneFrom_35 fl_X1_18 i13 (i14.ne (by decide)) ?_
      refine wp_aload_n 2 dX1_goneFrom_38 rfl rfl ?_
      refine wp_lload_n 4 dX1_goneFrom_39 rfl rfl ?_
      refine wp_iload 5 dX1_goneFrom_40 rfl ?_
      refine wp_callVN (as := [.long x3, .int x5]) dX1_goneFrom_42 cb_X0_after lk_X1_81 im_X0_after se_X0_after rfl (Nat.le_of_ble_eq_true rfl) ⟨by decide, by decide⟩ ⟨Nat.le_refl _, Nat.le_refl _, Nat.le_refl _⟩ i8 rfl (by decide) hb (fun r0 h16 hb => ?_)
      obtain ⟨r17, rfl, hb⟩ := hb
      refine wp_lconst (v := 0) dX1_goneFrom_45 (by decide) ?_
      refine wp_iload_n 3 dX1_goneFrom_46 rfl rfl ?_
      refine wp_iload 5 dX1_goneFrom_47 rfl ?_
      refine wp_callVN (as := [.long r17, .long 0, .int x2, .int x5]) dX1_goneFrom_49 cb_X6_meet lk_X1_65 im_X6_meet se_X6_meet rfl (Nat.le_of_ble_eq_true rfl) ⟨by decide, by decide⟩ ⟨Nat.le_refl _, Nat.le_refl _, Nat.le_refl _⟩ i14 rfl (by decide) hb (fun r0 h19 hb => ?_)
      obtain ⟨r20, rfl, hb⟩ := hb
      refine wp_istore (lv2 := [(6, .int r20), (0, .ref x0), (1, .ref x1), (2, .int x2), (3, .long x3), (5, .int x5)]) dX1_goneFrom_52 (by decide) rfl ?_
      refine wp_iload 0 dX1_goneFrom_54 rfl ?_
      refine wp_iconst (v := (-1)) dX1_goneFrom_56 (by decide) ?_
      refine wp_icmp_ne (tgt := 62) dX1_goneFrom_57 (by decide) (fun c21 => ?_) (fun c21 => ?_)
      · have hb := hb.1 c21
        exact wp_sub [1, 2, 3, 4, 5, 0] rfl hb
      · have hb := hb.2 c21
        refine wp_iconst (v := 0) dX1_goneFrom_60 (by decide) ?_
        exact wp_zret rfl dX1_goneFrom_61 (Or.inl rfl) ⟨_, rfl, hb⟩
set_option maxRecDepth 100000 in
set_option maxHeartbeats 4000000 in
theorem s_X1_goneFrom_62 {l : Launch} {g : AG} {h : AH} {x0 : Nat} {x1 : Nat} {x2 : Int32} {x3 : Int64} {x5 : Int32} {x6 : Int32}  {Q : Int32 → AH → Prop} (hb : (Is 194 x0 1) ∧ ( (Is 194 (h.2.2 x0 3) 20) ∧ ( (vp_in ((x2 * 27) + x5) (ax_s (h.2.2 x0 3)).2) ∧ ( ∀ h25 : AH, h25 = ax_setI h (h.2.2 x0 3) ((x2 * 27) + x5).toNatClampNeg x6 → ( ∀ v27 : Int32, v27 = x5 + (1) → ( L_X1_goneFrom_13 l g h25 x0 x1 x2 x3 v27  Q)))))) : L_X1_goneFrom_62 l g h x0 x1 x2 x3 x5 x6  Q := by
  obtain ⟨i22, hb⟩ := hb
  refine wp_aload_n 0 dX1_goneFrom_62 rfl rfl ?_
  obtain ⟨i23, hb⟩ := hb
  refine wp_getR dX1_goneFrom_63 fl_X1_22 i22 (i23.ne (by decide)) ?_
  refine wp_iload_n 2 dX1_goneFrom_66 rfl rfl ?_
  refine wp_bipush (v := 27) dX1_goneFrom_67 (by decide) ?_
  refine wp_imul dX1_goneFrom_69 ?_
  refine wp_iload 4 dX1_goneFrom_70 rfl ?_
  refine wp_iadd dX1_goneFrom_72 ?_
  refine wp_iload 5 dX1_goneFrom_73 rfl ?_
  obtain ⟨b24, hb⟩ := hb
  refine wp_iastore dX1_goneFrom_75 i23 b24 ?_
  refine wp_topH (fun h25 e26 => ?_)
  have hb := hb h25 e26
  obtain ⟨v27, e28⟩ : ∃ y : Int32, y = x5 + (1) := ⟨_, rfl⟩
  have hb := hb v27 e28
  refine wp_iinc (v := v27) (lv2 := [(5, .int v27), (0, .ref x0), (1, .ref x1), (2, .int x2), (3, .long x3), (6, .int x6)]) 4 dX1_goneFrom_76 rfl (by rw [e28]; rfl) (by decide) rfl ?_
  refine wp_goto (tgt := 13) dX1_goneFrom_79 (by decide) ?_
  exact wp_sub [1, 2, 3, 4, 0] rfl hb
theorem c_X1_goneFrom {l : Launch} {g : AG} {h : AH} {x0 : Nat} {x1 : Nat} {x2 : Int32}  {Q : Int32 → AH → Prop} (hb : L_X1_goneFrom_0 l g h x0 x1 x2  Q) : C_X1_goneFrom l g h x0 x1 x2  Q := ax_met rfl (Nat.le_of_ble_eq_true rfl) hb
def C_X1_made (l : Launch) (g : AG) (h : AH) (x0 : Nat) (x1 : Nat) (x2 : Int32)  (Q : Int32 → AH → Prop) : Prop := Ct l g mX1_made 5 127 194 194 h [.ref x0, .ref x1, .int x2] (ax_QI Q)
def L_X1_made_0 (l : Launch) (g : AG) (h : AH) (x0 : Nat) (x1 : Nat) (x2 : Int32)  (Q : Int32 → AH → Prop) : Prop := Wp l g mX1_made 5 127 194 194 194 0 [(0, .ref x0), (1, .ref x1), (2, .int x2)] [] h (FM g 194 194 (ax_QI Q))
def L_X1_made_28 (l : Launch) (g : AG) (h : AH) (x0 : Nat) (x1 : Nat) (x2 : Int32) (x3 : Int32)  (Q : Int32 → AH → Prop) : Prop := Wp l g mX1_made 5 127 194 194 194 28 [(0, .ref x0), (1, .ref x1), (2, .int x2), (3, .int x3)] [] h (FM g 194 194 (ax_QI Q))
set_option maxRecDepth 100000 in
set_option maxHeartbeats 4000000 in
theorem s_X1_made_0 {l : Launch} {g : AG} {h : AH} {x0 : Nat} {x1 : Nat} {x2 : Int32}  {Q : Int32 → AH → Prop} (hb : (Is 194 x0 1) ∧ ( C_X1_drop l g h x0 (fun h3 => ( (Is 194 (h3.2.2 x0 2) 5) ∧ ( C_X6_clear l g h3 (h3.2.2 x0 2) (fun h6 => ( (Is 194 (h6.2.2 x0 2) 5) ∧ ( (Is 194 x1 0) ∧ ( C_X0_beginning l g h6 x1 (fun r11 h10 => ( C_X6_meet l g h10 (h6.2.2 x0 2) r11 0 (-1) (-1) (fun r14 h13 => ( L_X1_made_28 l g h13 x0 x1 x2 0  Q))))))))))))) : L_X1_made_0 l g h x0 x1 x2  Q := by
  obtain ⟨i1, hb⟩ := hb
  refine wp_aload_n 0 dX1_made_0 rfl rfl ?_
  refine wp_callV (as := []) dX1_made_1 cb_X1_drop lk_X1_53 im_X1_drop se_X1_drop rfl (Nat.le_of_ble_eq_true rfl) ⟨by decide, by decide⟩ ⟨Nat.le_refl _, Nat.le_refl _, Nat.le_refl _⟩ i1 rfl (by decide) hb (fun r0 h3 hb => ?_)
  obtain ⟨rfl, hb⟩ := hb
  refine wp_aload_n 0 dX1_made_4 rfl rfl ?_
  obtain ⟨i4, hb⟩ := hb
  refine wp_getR dX1_made_5 fl_X1_18 i1 (i4.ne (by decide)) ?_
  refine wp_callVN (as := []) dX1_made_8 cb_X6_clear lk_X1_56 im_X6_clear se_X6_clear rfl (Nat.le_of_ble_eq_true rfl) ⟨by decide, by decide⟩ ⟨Nat.le_refl _, Nat.le_refl _, Nat.le_refl _⟩ i4 rfl (by decide) hb (fun r0 h6 hb => ?_)
  obtain ⟨rfl, hb⟩ := hb
  refine wp_aload_n 0 dX1_made_11 rfl rfl ?_
  obtain ⟨i7, hb⟩ := hb
  refine wp_getR dX1_made_12 fl_X1_18 i1 (i7.ne (by decide)) ?_
  obtain ⟨i8, hb⟩ := hb
  refine wp_aload_n 1 dX1_made_15 rfl rfl ?_
  refine wp_callVN (as := []) dX1_made_16 cb_X0_beginning lk_X1_59 im_X0_beginning se_X0_beginning rfl (Nat.le_of_ble_eq_true rfl) ⟨by decide, by decide⟩ ⟨Nat.le_refl _, Nat.le_refl _, Nat.le_refl _⟩ i8 rfl (by decide) hb (fun r0 h10 hb => ?_)
  obtain ⟨r11, rfl, hb⟩ := hb
  refine wp_lconst (v := 0) dX1_made_19 (by decide) ?_
  refine wp_iconst (v := (-1)) dX1_made_20 (by decide) ?_
  refine wp_iconst (v := (-1)) dX1_made_21 (by decide) ?_
  refine wp_callVN (as := [.long r11, .long 0, .int (-1), .int (-1)]) dX1_made_22 cb_X6_meet lk_X1_65 im_X6_meet se_X6_meet rfl (Nat.le_of_ble_eq_true rfl) ⟨by decide, by decide⟩ ⟨Nat.le_refl _, Nat.le_refl _, Nat.le_refl _⟩ i7 rfl (by decide) hb (fun r0 h13 hb => ?_)
  obtain ⟨r14, rfl, hb⟩ := hb
  refine wp_pop dX1_made_25 rfl ?_
  refine wp_iconst (v := 0) dX1_made_26 (by decide) ?_
  refine wp_istore_n (lv2 := [(3, .int 0), (0, .ref x0), (1, .ref x1), (2, .int x2)]) dX1_made_27 rfl (by decide) rfl ?_
  exact wp_sub [1, 2, 3, 0] rfl hb
set_option maxRecDepth 100000 in
set_option maxHeartbeats 4000000 in
theorem s_X1_made_28 {l : Launch} {g : AG} {h : AH} {x0 : Nat} {x1 : Nat} {x2 : Int32} {x3 : Int32}  {Q : Int32 → AH → Prop} (hb : (Is 194 x0 1) ∧ ( (Is 194 (h.2.2 x0 2) 5) ∧ ( ((h.1 (h.2.2 x0 2) 0 ≤ x3 → ((Is 194 x1 0) ∧ ( ∀ h19 : AH, h19 = ax_setR h x0 1 x1 → ( ∀ h21 : AH, h21 = ax_setI h19 x0 0 x2 → ( Q 1 h21))))) ∧ (¬ (h.1 (h.2.2 x0 2) 0 ≤ x3) → (((400 ≤ x3 → ((Is 194 x1 0) ∧ ( ∀ h25 : AH, h25 = ax_setR h x0 1 x1 → ( ∀ h27 : AH, h27 = ax_setI h25 x0 0 x2 → ( Q 1 h27))))) ∧ (¬ (400 ≤ x3) → ((Is 194 x1 0) ∧ ( C_X1_goneFrom l g h x0 x1 x3 (fun r32 h31 => ( ((¬ r32 = 0 → (∀ v34 : Int32, v34 = x3 + (1) → ( L_X1_made_28 l g h31 x0 x1 x2 v34  Q))) ∧ (r32 = 0 → (Q 0 h31))))))))))))))) : L_X1_made_28 l g h x0 x1 x2 x3  Q := by
  refine wp_iload_n 3 dX1_made_28 rfl rfl ?_
  obtain ⟨i15, hb⟩ := hb
  refine wp_aload_n 0 dX1_made_29 rfl rfl ?_
  obtain ⟨i16, hb⟩ := hb
  refine wp_getR dX1_made_30 fl_X1_18 i15 (i16.ne (by decide)) ?_
  refine wp_getI dX1_made_33 fl_X1_50 i16 ?_
  refine wp_icmp_ge (tgt := 63) dX1_made_36 (by decide) (fun c17 => ?_) (fun c17 => ?_)
  · have hb := hb.1 c17
    refine wp_aload_n 0 dX1_made_63 rfl rfl ?_
    obtain ⟨i18, hb⟩ := hb
    refine wp_aload_n 1 dX1_made_64 rfl rfl ?_
    refine wp_putR dX1_made_65 fl_X1_42 (Or.inl rfl) i15 (i18.ne (by decide)) ?_
    refine wp_topH (fun h19 e20 => ?_)
    have hb := hb h19 e20
    refine wp_aload_n 0 dX1_made_68 rfl rfl ?_
    refine wp_iload_n 2 dX1_made_69 rfl rfl ?_
    refine wp_putI dX1_made_70 fl_X1_9 (Or.inl rfl) i15 ?_
    refine wp_topH (fun h21 e22 => ?_)
    have hb := hb h21 e22
    refine wp_iconst (v := 1) dX1_made_73 (by decide) ?_
    exact wp_zret rfl dX1_made_74 (Or.inr rfl) ⟨_, rfl, hb⟩
  · have hb := hb.2 c17
    refine wp_iload_n 3 dX1_made_39 rfl rfl ?_
    refine wp_sipush (v := 400) dX1_made_40 (by decide) ?_
    refine wp_icmp_ge (tgt := 63) dX1_made_43 (by decide) (fun c23 => ?_) (fun c23 => ?_)
    · have hb := hb.1 c23
      refine wp_aload_n 0 dX1_made_63 rfl rfl ?_
      obtain ⟨i24, hb⟩ := hb
      refine wp_aload_n 1 dX1_made_64 rfl rfl ?_
      refine wp_putR dX1_made_65 fl_X1_42 (Or.inl rfl) i15 (i24.ne (by decide)) ?_
      refine wp_topH (fun h25 e26 => ?_)
      have hb := hb h25 e26
      refine wp_aload_n 0 dX1_made_68 rfl rfl ?_
      refine wp_iload_n 2 dX1_made_69 rfl rfl ?_
      refine wp_putI dX1_made_70 fl_X1_9 (Or.inl rfl) i15 ?_
      refine wp_topH (fun h27 e28 => ?_)
      have hb := hb h27 e28
      refine wp_iconst (v := 1) dX1_made_73 (by decide) ?_
      exact wp_zret rfl dX1_made_74 (Or.inr rfl) ⟨_, rfl, hb⟩
    · have hb := hb.2 c23
      refine wp_aload_n 0 dX1_made_46 rfl rfl ?_
      obtain ⟨i29, hb⟩ := hb
      refine wp_aload_n 1 dX1_made_47 rfl rfl ?_
      refine wp_iload_n 3 dX1_made_48 rfl rfl ?_
      refine wp_callV (as := [.ref x1, .int x3]) dX1_made_49 cb_X1_goneFrom lk_X1_69 im_X1_goneFrom se_X1_goneFrom rfl (Nat.le_of_ble_eq_true rfl) ⟨by decide, by decide⟩ ⟨Nat.le_refl _, Nat.le_refl _, Nat.le_refl _⟩ i15 rfl (by decide) hb (fun r0 h31 hb => ?_)
      obtain ⟨r32, rfl, hb⟩ := hb
      refine wp_if_ne (tgt := 57) dX1_made_52 (by decide) (fun c33 => ?_) (fun c33 => ?_)
      · have hb := hb.1 c33
        obtain ⟨v34, e35⟩ : ∃ y : Int32, y = x3 + (1) := ⟨_, rfl⟩
        have hb := hb v34 e35
        refine wp_iinc (v := v34) (lv2 := [(3, .int v34), (0, .ref x0), (1, .ref x1), (2, .int x2)]) 3 dX1_made_57 rfl (by rw [e35]; rfl) (by decide) rfl ?_
        refine wp_goto (tgt := 28) dX1_made_60 (by decide) ?_
        exact wp_sub [1, 2, 3, 0] rfl hb
      · have hb := hb.2 c33
        refine wp_iconst (v := 0) dX1_made_55 (by decide) ?_
        exact wp_zret rfl dX1_made_56 (Or.inl rfl) ⟨_, rfl, hb⟩
theorem c_X1_made {l : Launch} {g : AG} {h : AH} {x0 : Nat} {x1 : Nat} {x2 : Int32}  {Q : Int32 → AH → Prop} (hb : L_X1_made_0 l g h x0 x1 x2  Q) : C_X1_made l g h x0 x1 x2  Q := ax_met rfl (Nat.le_of_ble_eq_true rfl) hb
