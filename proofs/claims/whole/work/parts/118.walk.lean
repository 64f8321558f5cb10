def C_X3_openOf (l : Launch) (g : AG) (h : AH) (x0 : Int64)  (Q : Int32 → AH → Prop) : Prop := Ct l g mX3_openOf 0 0 194 194 h [.long x0] (ax_QI Q)
def L_X3_openOf_0 (l : Launch) (g : AG) (h : AH) (x0 : Int64)  (Q : Int32 → AH → Prop) : Prop := Wp l g mX3_openOf 0 0 194 194 194 0 [(0, .long x0)] [] h (FM g 194 194 (ax_QI Q))
set_option maxRecDepth 100000 in
set_option maxHeartbeats 4000000 in
theorem s_X3_openOf_0 {l : Launch} {g : AG} {h : AH} {x0 : Int64}  {Q : Int32 → AH → Prop} (hb : Q (((jlushr x0 24).toInt32) &&& 7) h) : L_X3_openOf_0 l g h x0  Q := by
  refine wp_lload_n 0 dX3_openOf_0 rfl rfl ?_
  refine wp_bipush (v := 24) dX3_openOf_1 (by decide) ?_
  refine wp_lushr dX3_openOf_3 ?_
  refine wp_l2i dX3_openOf_4 ?_
  refine wp_bipush (v := 7) dX3_openOf_5 (by decide) ?_
  refine wp_iand dX3_openOf_7 ?_
  exact wp_iret rfl dX3_openOf_8 ⟨_, rfl, hb⟩
theorem c_X3_openOf {l : Launch} {g : AG} {h : AH} {x0 : Int64}  {Q : Int32 → AH → Prop} (hb : L_X3_openOf_0 l g h x0  Q) : C_X3_openOf l g h x0  Q := ax_met rfl (Nat.le_of_ble_eq_true rfl) hb
def C_X3_topOf (l : Launch) (g : AG) (h : AH) (x0 : Int64)  (Q : Int32 → AH → Prop) : Prop := Ct l g mX3_topOf 1 21 194 194 h [.long x0] (ax_QI Q)
def L_X3_topOf_0 (l : Launch) (g : AG) (h : AH) (x0 : Int64)  (Q : Int32 → AH → Prop) : Prop := Wp l g mX3_topOf 1 21 194 194 194 0 [(0, .long x0)] [] h (FM g 194 194 (ax_QI Q))
set_option maxRecDepth 100000 in
set_option maxHeartbeats 4000000 in
theorem s_X3_topOf_0 {l : Launch} {g : AG} {h : AH} {x0 : Int64}  {Q : Int32 → AH → Prop} (hb : C_X3_openOf l g h x0 (fun r3 h2 => ( ((r3 ≤ 0 → (Q (-1) h2)) ∧ (¬ (r3 ≤ 0) → (Q (((jlushr x0 31).toInt32) &&& 7) h2)))))) : L_X3_topOf_0 l g h x0  Q := by
  refine wp_lload_n 0 dX3_topOf_0 rfl rfl ?_
  refine wp_callS (as := [.long x0]) dX3_topOf_1 cb_X3_openOf lk_X3_17 st_X3_openOf rfl (Nat.le_of_ble_eq_true rfl) ⟨by decide, by decide⟩ ⟨Nat.le_refl _, Nat.le_refl _, Nat.le_refl _⟩ hb (fun r0 h2 hb => ?_)
  obtain ⟨r3, rfl, hb⟩ := hb
  refine wp_if_le (tgt := 18) dX3_topOf_4 (by decide) (fun c4 => ?_) (fun c4 => ?_)
  · have hb := hb.1 c4
    refine wp_iconst (v := (-1)) dX3_topOf_18 (by decide) ?_
    exact wp_iret rfl dX3_topOf_19 ⟨_, rfl, hb⟩
  · have hb := hb.2 c4
    refine wp_lload_n 0 dX3_topOf_7 rfl rfl ?_
    refine wp_bipush (v := 31) dX3_topOf_8 (by decide) ?_
    refine wp_lushr dX3_topOf_10 ?_
    refine wp_l2i dX3_topOf_11 ?_
    refine wp_bipush (v := 7) dX3_topOf_12 (by decide) ?_
    refine wp_iand dX3_topOf_14 ?_
    refine wp_goto (tgt := 19) dX3_topOf_15 (by decide) ?_
    exact wp_iret rfl dX3_topOf_19 ⟨_, rfl, hb⟩
theorem c_X3_topOf {l : Launch} {g : AG} {h : AH} {x0 : Int64}  {Q : Int32 → AH → Prop} (hb : L_X3_topOf_0 l g h x0  Q) : C_X3_topOf l g h x0  Q := ax_met rfl (Nat.le_of_ble_eq_true rfl) hb
def C_X3_valueOf (l : Launch) (g : AG) (h : AH) (x0 : Int64) (x2 : Int32)  (Q : Int32 → AH → Prop) : Prop := Ct l g mX3_valueOf 0 0 194 194 h [.long x0, .int x2] (ax_QI Q)
def L_X3_valueOf_0 (l : Launch) (g : AG) (h : AH) (x0 : Int64) (x2 : Int32)  (Q : Int32 → AH → Prop) : Prop := Wp l g mX3_valueOf 0 0 194 194 194 0 [(0, .long x0), (2, .int x2)] [] h (FM g 194 194 (ax_QI Q))
set_option maxRecDepth 100000 in
set_option maxHeartbeats 4000000 in
theorem s_X3_valueOf_0 {l : Launch} {g : AG} {h : AH} {x0 : Int64} {x2 : Int32}  {Q : Int32 → AH → Prop} (hb : Q (((jlushr x0 (4 * x2)).toInt32) &&& 15) h) : L_X3_valueOf_0 l g h x0 x2  Q := by
  refine wp_lload_n 0 dX3_valueOf_0 rfl rfl ?_
  refine wp_iconst (v := 4) dX3_valueOf_1 (by decide) ?_
  refine wp_iload_n 1 dX3_valueOf_2 rfl rfl ?_
  refine wp_imul dX3_valueOf_3 ?_
  refine wp_lushr dX3_valueOf_4 ?_
  refine wp_l2i dX3_valueOf_5 ?_
  refine wp_bipush (v := 15) dX3_valueOf_6 (by decide) ?_
  refine wp_iand dX3_valueOf_8 ?_
  exact wp_iret rfl dX3_valueOf_9 ⟨_, rfl, hb⟩
theorem c_X3_valueOf {l : Launch} {g : AG} {h : AH} {x0 : Int64} {x2 : Int32}  {Q : Int32 → AH → Prop} (hb : L_X3_valueOf_0 l g h x0 x2  Q) : C_X3_valueOf l g h x0 x2  Q := ax_met rfl (Nat.le_of_ble_eq_true rfl) hb
def C_X4_hold (l : Launch) (g : AG) (h : AH) (x0 : Nat) (x1 : Int32) (x2 : Int64)  (Q : Int32 → AH → Prop) : Prop := Ct l g mX4_hold 1 22 194 194 h [.ref x0, .int x1, .long x2] (ax_QI Q)
def L_X4_hold_0 (l : Launch) (g : AG) (h : AH) (x0 : Nat) (x1 : Int32) (x2 : Int64)  (Q : Int32 → AH → Prop) : Prop := Wp l g mX4_hold 1 22 194 194 194 0 [(0, .ref x0), (1, .int x1), (2, .long x2)] [] h (FM g 194 194 (ax_QI Q))
def L_X4_hold_9 (l : Launch) (g : AG) (h : AH) (x0 : Nat) (x1 : Int32) (x2 : Int64) (x4 : Int32) (x5 : Int32)  (Q : Int32 → AH → Prop) : Prop := Wp l g mX4_hold 1 22 194 194 194 9 [(0, .ref x0), (1, .int x1), (2, .long x2), (4, .int x4), (5, .int x5)] [] h (FM g 194 194 (ax_QI Q))
set_option maxRecDepth 100000 in
set_option maxHeartbeats 4000000 in
theorem s_X4_hold_0 {l : Launch} {g : AG} {h : AH} {x0 : Nat} {x1 : Int32} {x2 : Int64}  {Q : Int32 → AH → Prop} (hb : ∀ v1 : Int32, v1 = (x1 * 3) → ( L_X4_hold_9 l g h x0 x1 x2 v1 v1  Q)) : L_X4_hold_0 l g h x0 x1 x2  Q := by
  refine wp_iload_n 1 dX4_hold_0 rfl rfl ?_
  refine wp_iconst (v := 3) dX4_hold_1 (by decide) ?_
  refine wp_imul dX4_hold_2 ?_
  refine wp_topi (fun v1 e2 => ?_)
  have hb := hb v1 e2
  refine wp_istore (lv2 := [(4, .int v1), (0, .ref x0), (1, .int x1), (2, .long x2)]) dX4_hold_3 (by decide) rfl ?_
  refine wp_iload 0 dX4_hold_5 rfl ?_
  refine wp_istore (lv2 := [(5, .int v1), (4, .int v1), (0, .ref x0), (1, .int x1), (2, .long x2)]) dX4_hold_7 (by decide) rfl ?_
  exact wp_sub [2, 3, 4, 1, 0] rfl hb
set_option maxRecDepth 100000 in
set_option maxHeartbeats 4000000 in
theorem s_X4_hold_9 {l : Launch} {g : AG} {h : AH} {x0 : Nat} {x1 : Int32} {x2 : Int64} {x4 : Int32} {x5 : Int32}  {Q : Int32 → AH → Prop} (hb : (Is 194 x0 3) ∧ ( (Is 194 (h.2.2 x0 0) 20) ∧ ( (vp_in x1 (ax_s (h.2.2 x0 0)).2) ∧ ( ((x4 + (h.1 (h.2.2 x0 0) x1.toNatClampNeg) ≤ x5 → (Q 1 h)) ∧ (¬ (x4 + (h.1 (h.2.2 x0 0) x1.toNatClampNeg) ≤ x5) → ((Is 194 (h.2.2 x0 1) 20) ∧ ( (vp_in x5 (ax_s (h.2.2 x0 1)).2) ∧ ( C_X3_valueOf l g h x2 (h.1 (h.2.2 x0 1) x5.toNatClampNeg) (fun r11 h10 => ( (Is 194 (h10.2.2 x0 2) 20) ∧ ( (vp_in x5 (ax_s (h10.2.2 x0 2)).2) ∧ ( ((r11 < h10.1 (h10.2.2 x0 2) x5.toNatClampNeg → (Q 0 h10)) ∧ (¬ (r11 < h10.1 (h10.2.2 x0 2) x5.toNatClampNeg) → ((Is 194 (h10.2.2 x0 3) 20) ∧ ( (vp_in x5 (ax_s (h10.2.2 x0 3)).2) ∧ ( ((r11 ≤ h10.1 (h10.2.2 x0 3) x5.toNatClampNeg → (∀ v18 : Int32, v18 = x5 + (1) → ( L_X4_hold_9 l g h10 x0 x1 x2 x4 v18  Q))) ∧ (¬ (r11 ≤ h10.1 (h10.2.2 x0 3) x5.toNatClampNeg) → (Q 0 h10))))))))))))))))))))) : L_X4_hold_9 l g h x0 x1 x2 x4 x5  Q := by
  refine wp_iload 4 dX4_hold_9 rfl ?_
  refine wp_iload 3 dX4_hold_11 rfl ?_
  obtain ⟨i3, hb⟩ := hb
  refine wp_aload_n 0 dX4_hold_13 rfl rfl ?_
  obtain ⟨i4, hb⟩ := hb
  refine wp_getR dX4_hold_14 fl_X4_9 i3 (i4.ne (by decide)) ?_
  refine wp_iload_n 1 dX4_hold_17 rfl rfl ?_
  obtain ⟨b5, hb⟩ := hb
  refine wp_iaload dX4_hold_18 i4 b5 ?_
  refine wp_iadd dX4_hold_19 ?_
  refine wp_icmp_ge (tgt := 68) dX4_hold_20 (by decide) (fun c6 => ?_) (fun c6 => ?_)
  · have hb := hb.1 c6
    refine wp_iconst (v := 1) dX4_hold_68 (by decide) ?_
    exact wp_zret rfl dX4_hold_69 (Or.inr rfl) ⟨_, rfl, hb⟩
  · have hb := hb.2 c6
    refine wp_lload_n 2 dX4_hold_23 rfl rfl ?_
    refine wp_aload_n 0 dX4_hold_24 rfl rfl ?_
    obtain ⟨i7, hb⟩ := hb
    refine wp_getR dX4_hold_25 fl_X4_15 i3 (i7.ne (by decide)) ?_
    refine wp_iload 4 dX4_hold_28 rfl ?_
    obtain ⟨b8, hb⟩ := hb
    refine wp_iaload dX4_hold_30 i7 b8 ?_
    refine wp_callSN (as := [.long x2, .int (h.1 (h.2.2 x0 1) x5.toNatClampNeg)]) dX4_hold_31 cb_X3_valueOf lk_X4_24 st_X3_valueOf rfl (Nat.le_of_ble_eq_true rfl) ⟨by decide, by decide⟩ ⟨Nat.le_refl _, Nat.le_refl _, Nat.le_refl _⟩ hb (fun r0 h10 hb => ?_)
    obtain ⟨r11, rfl, hb⟩ := hb
    refine wp_istore (lv2 := [(6, .int r11), (0, .ref x0), (1, .int x1), (2, .long x2), (4, .int x4), (5, .int x5)]) dX4_hold_34 (by decide) rfl ?_
    refine wp_iload 0 dX4_hold_36 rfl ?_
    refine wp_aload_n 1 dX4_hold_38 rfl rfl ?_
    obtain ⟨i12, hb⟩ := hb
    refine wp_getR dX4_hold_39 fl_X4_18 i3 (i12.ne (by decide)) ?_
    refine wp_iload 5 dX4_hold_42 rfl ?_
    obtain ⟨b13, hb⟩ := hb
    refine wp_iaload dX4_hold_44 i12 b13 ?_
    refine wp_icmp_lt (tgt := 60) dX4_hold_45 (by decide) (fun c14 => ?_) (fun c14 => ?_)
    · have hb := hb.1 c14
      refine wp_iconst (v := 0) dX4_hold_60 (by decide) ?_
      exact wp_zret rfl dX4_hold_61 (Or.inl rfl) ⟨_, rfl, hb⟩
    · have hb := hb.2 c14
      refine wp_iload 0 dX4_hold_48 rfl ?_
      refine wp_aload_n 1 dX4_hold_50 rfl rfl ?_
      obtain ⟨i15, hb⟩ := hb
      refine wp_getR dX4_hold_51 fl_X4_21 i3 (i15.ne (by decide)) ?_
      refine wp_iload 5 dX4_hold_54 rfl ?_
      obtain ⟨b16, hb⟩ := hb
      refine wp_iaload dX4_hold_56 i15 b16 ?_
      refine wp_icmp_le (tgt := 62) dX4_hold_57 (by decide) (fun c17 => ?_) (fun c17 => ?_)
      · have hb := hb.1 c17
        obtain ⟨v18, e19⟩ : ∃ y : Int32, y = x5 + (1) := ⟨_, rfl⟩
        have hb := hb v18 e19
        refine wp_iinc (v := v18) (lv2 := [(5, .int v18), (6, .int r11), (0, .ref x0), (1, .int x1), (2, .long x2), (4, .int x4)]) 5 dX4_hold_62 rfl (by rw [e19]; rfl) (by decide) rfl ?_
        refine wp_goto (tgt := 9) dX4_hold_65 (by decide) ?_
        exact wp_sub [2, 3, 4, 5, 0] rfl hb
      · have hb := hb.2 c17
        refine wp_iconst (v := 0) dX4_hold_60 (by decide) ?_
        exact wp_zret rfl dX4_hold_61 (Or.inl rfl) ⟨_, rfl, hb⟩
theorem c_X4_hold {l : Launch} {g : AG} {h : AH} {x0 : Nat} {x1 : Int32} {x2 : Int64}  {Q : Int32 → AH → Prop} (hb : L_X4_hold_0 l g h x0 x1 x2  Q) : C_X4_hold l g h x0 x1 x2  Q := ax_met rfl (Nat.le_of_ble_eq_true rfl) hb
def C_X0_possible (l : Launch) (g : AG) (h : AH) (x0 : Nat) (x1 : Int64) (x3 : Int32)  (Q : Int32 → AH → Prop) : Prop := Ct l g mX0_possible 2 48 194 194 h [.ref x0, .long x1, .int x3] (ax_QI Q)
def L_X0_possible_0 (l : Launch) (g : AG) (h : AH) (x0 : Nat) (x1 : Int64) (x3 : Int32)  (Q : Int32 → AH → Prop) : Prop := Wp l g mX0_possible 2 48 194 194 194 0 [(0, .ref x0), (1, .long x1), (3, .int x3)] [] h (FM g 194 194 (ax_QI Q))
set_option maxRecDepth 100000 in
set_option maxHeartbeats 4000000 in
theorem s_X0_possible_0 {l : Launch} {g : AG} {h : AH} {x0 : Nat} {x1 : Int64} {x3 : Int32}  {Q : Int32 → AH → Prop} (hb : ((¬ x3 = 26 → (C_X3_topOf l g h x1 (fun r4 h3 => ( ((¬ r4 = (-1) → (((¬ x3 = 24 → (((¬ x3 = 25 → ((Is 194 x0 0) ∧ ( (Is 194 (h3.2.2 x0 14) 20) ∧ ( (vp_in r4 (ax_s (h3.2.2 x0 14)).2) ∧ ( ((x3 < h3.1 (h3.2.2 x0 14) r4.toNatClampNeg → (Q 0 h3)) ∧ (¬ (x3 < h3.1 (h3.2.2 x0 14) r4.toNatClampNeg) → ((Is 194 (h3.2.2 x0 15) 20) ∧ ( (vp_in r4 (ax_s (h3.2.2 x0 15)).2) ∧ ( ((h3.1 (h3.2.2 x0 15) r4.toNatClampNeg ≤ x3 → (Q 0 h3)) ∧ (¬ (h3.1 (h3.2.2 x0 15) r4.toNatClampNeg ≤ x3) → ((Is 194 (h3.2.2 x0 17) 3) ∧ ( C_X4_hold l g h3 (h3.2.2 x0 17) x3 x1 (fun r18 h17 => ( ((r18 = 0 → (Q 0 h17)) ∧ (¬ (r18 = 0) → (Q 1 h17))))))))))))))))))) ∧ (x3 = 25 → (C_X3_openOf l g h3 x1 (fun r22 h21 => ( ((r22 ≤ 1 → (Q 0 h21)) ∧ (¬ (r22 ≤ 1) → (Q 1 h21)))))))))) ∧ (x3 = 24 → (Q 1 h3))))) ∧ (r4 = (-1) → (Q 0 h3))))))) ∧ (x3 = 26 → (Q 1 h)))) : L_X0_possible_0 l g h x0 x1 x3  Q := by
  refine wp_iload_n 2 dX0_possible_0 rfl rfl ?_
  refine wp_bipush (v := 26) dX0_possible_1 (by decide) ?_
  refine wp_icmp_ne (tgt := 8) dX0_possible_3 (by decide) (fun c1 => ?_) (fun c1 => ?_)
  · have hb := hb.1 c1
    refine wp_lload_n 1 dX0_possible_8 rfl rfl ?_
    refine wp_callSN (as := [.long x1]) dX0_possible_9 cb_X3_topOf lk_X0_102 st_X3_topOf rfl (Nat.le_of_ble_eq_true rfl) ⟨by decide, by decide⟩ ⟨Nat.le_refl _, Nat.le_refl _, Nat.le_refl _⟩ hb (fun r0 h3 hb => ?_)
    obtain ⟨r4, rfl, hb⟩ := hb
    refine wp_istore (lv2 := [(4, .int r4), (0, .ref x0), (1, .long x1), (3, .int x3)]) dX0_possible_12 (by decide) rfl ?_
    refine wp_iload 0 dX0_possible_14 rfl ?_
    refine wp_iconst (v := (-1)) dX0_possible_16 (by decide) ?_
    refine wp_icmp_ne (tgt := 22) dX0_possible_17 (by decide) (fun c5 => ?_) (fun c5 => ?_)
    · have hb := hb.1 c5
      refine wp_iload_n 3 dX0_possible_22 rfl rfl ?_
      refine wp_bipush (v := 24) dX0_possible_23 (by decide) ?_
      refine wp_icmp_ne (tgt := 30) dX0_possible_25 (by decide) (fun c6 => ?_) (fun c6 => ?_)
      · have hb := hb.1 c6
        refine wp_iload_n 3 dX0_possible_30 rfl rfl ?_
        refine wp_bipush (v := 25) dX0_possible_31 (by decide) ?_
        refine wp_icmp_ne (tgt := 50) dX0_possible_33 (by decide) (fun c7 => ?_) (fun c7 => ?_)
        · have hb := hb.1 c7
          refine wp_iload_n 3 dX0_possible_50 rfl rfl ?_
          obtain ⟨i8, hb⟩ := hb
          refine wp_aload_n 1 dX0_possible_51 rfl rfl ?_
          obtain ⟨i9, hb⟩ := hb
          refine wp_getR dX0_possible_52 fl_X0_57 i8 (i9.ne (by decide)) ?_
          refine wp_iload 0 dX0_possible_55 rfl ?_
          obtain ⟨b10, hb⟩ := hb
          refine wp_iaload dX0_possible_57 i9 b10 ?_
          refine wp_icmp_lt (tgt := 88) dX0_possible_58 (by decide) (fun c11 => ?_) (fun c11 => ?_)
          · have hb := hb.1 c11
            refine wp_iconst (v := 0) dX0_possible_88 (by decide) ?_
            exact wp_zret rfl dX0_possible_89 (Or.inl rfl) ⟨_, rfl, hb⟩
          · have hb := hb.2 c11
            refine wp_iload_n 3 dX0_possible_61 rfl rfl ?_
            refine wp_aload_n 1 dX0_possible_62 rfl rfl ?_
            obtain ⟨i12, hb⟩ := hb
            refine wp_getR dX0_possible_63 fl_X0_60 i8 (i12.ne (by decide)) ?_
            refine wp_iload 0 dX0_possible_66 rfl ?_
            obtain ⟨b13, hb⟩ := hb
            refine wp_iaload dX0_possible_68 i12 b13 ?_
            refine wp_icmp_ge (tgt := 88) dX0_possible_69 (by decide) (fun c14 => ?_) (fun c14 => ?_)
            · have hb := hb.1 c14
              refine wp_iconst (v := 0) dX0_possible_88 (by decide) ?_
              exact wp_zret rfl dX0_possible_89 (Or.inl rfl) ⟨_, rfl, hb⟩
            · have hb := hb.2 c14
              refine wp_aload_n 1 dX0_possible_72 rfl rfl ?_
              obtain ⟨i15, hb⟩ := hb
              refine wp_getR dX0_possible_73 fl_X0_69 i8 (i15.ne (by decide)) ?_
              refine wp_iload_n 3 dX0_possible_76 rfl rfl ?_
              refine wp_lload_n 2 dX0_possible_77 rfl rfl ?_
              refine wp_callVN (as := [.int x3, .long x1]) dX0_possible_78 cb_X4_hold lk_X0_109 im_X4_hold se_X4_hold rfl (Nat.le_of_ble_eq_true rfl) ⟨by decide, by decide⟩ ⟨Nat.le_refl _, Nat.le_refl _, Nat.le_refl _⟩ i15 rfl (by decide) hb (fun r0 h17 hb => ?_)
              obtain ⟨r18, rfl, hb⟩ := hb
              refine wp_if_eq (tgt := 88) dX0_possible_81 (by decide) (fun c19 => ?_) (fun c19 => ?_)
              · have hb := hb.1 c19
                refine wp_iconst (v := 0) dX0_possible_88 (by decide) ?_
                exact wp_zret rfl dX0_possible_89 (Or.inl rfl) ⟨_, rfl, hb⟩
              · have hb := hb.2 c19
                refine wp_iconst (v := 1) dX0_possible_84 (by decide) ?_
                refine wp_goto (tgt := 89) dX0_possible_85 (by decide) ?_
                exact wp_zret rfl dX0_possible_89 (Or.inr rfl) ⟨_, rfl, hb⟩
        · have hb := hb.2 c7
          refine wp_lload_n 2 dX0_possible_36 rfl rfl ?_
          refine wp_callSN (as := [.long x1]) dX0_possible_37 cb_X3_openOf lk_X0_106 st_X3_openOf rfl (Nat.le_of_ble_eq_true rfl) ⟨by decide, by decide⟩ ⟨Nat.le_refl _, Nat.le_refl _, Nat.le_refl _⟩ hb (fun r0 h21 hb => ?_)
          obtain ⟨r22, rfl, hb⟩ := hb
          refine wp_iconst (v := 1) dX0_possible_40 (by decide) ?_
          refine wp_icmp_le (tgt := 48) dX0_possible_41 (by decide) (fun c23 => ?_) (fun c23 => ?_)
          · have hb := hb.1 c23
            refine wp_iconst (v := 0) dX0_possible_48 (by decide) ?_
            exact wp_zret rfl dX0_possible_49 (Or.inl rfl) ⟨_, rfl, hb⟩
          · have hb := hb.2 c23
            refine wp_iconst (v := 1) dX0_possible_44 (by decide) ?_
            refine wp_goto (tgt := 49) dX0_possible_45 (by decide) ?_
            exact wp_zret rfl dX0_possible_49 (Or.inr rfl) ⟨_, rfl, hb⟩
      · have hb := hb.2 c6
        refine wp_iconst (v := 1) dX0_possible_28 (by decide) ?_
        exact wp_zret rfl dX0_possible_29 (Or.inr rfl) ⟨_, rfl, hb⟩
    · have hb := hb.2 c5
      refine wp_iconst (v := 0) dX0_possible_20 (by decide) ?_
      exact wp_zret rfl dX0_possible_21 (Or.inl rfl) ⟨_, rfl, hb⟩
  · have hb := hb.2 c1
    refine wp_iconst (v := 1) dX0_possible_6 (by decide) ?_
    exact wp_zret rfl dX0_possible_7 (Or.inr rfl) ⟨_, rfl, hb⟩
theorem c_X0_possible {l : Launch} {g : AG} {h : AH} {x0 : Nat} {x1 : Int64} {x3 : Int32}  {Q : Int32 → AH → Prop} (hb : L_X0_possible_0 l g h x0 x1 x3  Q) : C_X0_possible l g h x0 x1 x3  Q := ax_met rfl (Nat.le_of_ble_eq_true rfl) hb
