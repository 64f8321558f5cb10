def C_X2_showUnlike (l : Launch) (g : AG) (h : AH) (x0 : Nat) (x1 : Int64) (x3 : Int64)  (Q : Int32 → AH → Prop) : Prop := Ct l g mX2_showUnlike 3 77 194 194 h [.ref x0, .long x1, .long x3] (ax_QI Q)
def L_X2_showUnlike_0 (l : Launch) (g : AG) (h : AH) (x0 : Nat) (x1 : Int64) (x3 : Int64)  (Q : Int32 → AH → Prop) : Prop := Wp l g mX2_showUnlike 3 77 194 194 194 0 [(0, .ref x0), (1, .long x1), (3, .long x3)] [] h (FM g 194 194 (ax_QI Q))
def L_X2_showUnlike_24 (l : Launch) (g : AG) (h : AH) (x1 : Int64) (x3 : Int64)  (Q : Int32 → AH → Prop) : Prop := Wp l g mX2_showUnlike 3 77 194 194 194 24 [(1, .long x1), (3, .long x3)] [] h (FM g 194 194 (ax_QI Q))
set_option maxRecDepth 100000 in
set_option maxHeartbeats 4000000 in
theorem s_X2_showUnlike_0 {l : Launch} {g : AG} {h : AH} {x0 : Nat} {x1 : Int64} {x3 : Int64}  {Q : Int32 → AH → Prop} (hb : C_X3_topOf l g h x1 (fun r3 h2 => ( C_X3_topOf l g h2 x3 (fun r6 h5 => ( ((r3 = (-1) → (L_X2_showUnlike_24 l g h5 x1 x3  Q)) ∧ (¬ (r3 = (-1)) → (((¬ r6 = (-1) → ((Is 194 x0 2) ∧ ( (Is 194 (h5.2.2 x0 0) 0) ∧ ( (Is 194 (h5.2.2 (h5.2.2 x0 0) 8) 21) ∧ ( (vp_in r3 (ax_s (h5.2.2 (h5.2.2 x0 0) 8)).2) ∧ ( (Is 194 (h5.2.2 x0 1) 0) ∧ ( (Is 194 (h5.2.2 (h5.2.2 x0 1) 8) 21) ∧ ( (vp_in r6 (ax_s (h5.2.2 (h5.2.2 x0 1) 8)).2) ∧ ( ((¬ lg_cmp (h5.2.1 (h5.2.2 (h5.2.2 x0 0) 8) r3.toNatClampNeg) (h5.2.1 (h5.2.2 (h5.2.2 x0 1) 8) r6.toNatClampNeg) = 0 → (Q 1 h5)) ∧ (lg_cmp (h5.2.1 (h5.2.2 (h5.2.2 x0 0) 8) r3.toNatClampNeg) (h5.2.1 (h5.2.2 (h5.2.2 x0 1) 8) r6.toNatClampNeg) = 0 → (C_X2_numbersUnlike l g h5 x0 x1 r3 x3 r6 (fun r19 h18 => ( ((¬ r19 = 0 → (Q 1 h18)) ∧ (r19 = 0 → ((Is 194 (h18.2.2 x0 0) 0) ∧ ( (Is 194 (h18.2.2 x0 1) 0) ∧ ( C_X2_oneMorePressed l g h18 (h18.2.2 x0 0) x1 (h18.2.2 x0 1) x3 (fun r25 h24 => ( ((¬ r25 = 0 → (Q 1 h24)) ∧ (r25 = 0 → ((Is 194 (h24.2.2 x0 1) 0) ∧ ( (Is 194 (h24.2.2 x0 0) 0) ∧ ( C_X2_oneMorePressed l g h24 (h24.2.2 x0 1) x3 (h24.2.2 x0 0) x1 (fun r31 h30 => ( ((r31 = 0 → (Q 0 h30)) ∧ (¬ (r31 = 0) → (Q 1 h30))))))))))))))))))))))))))))))) ∧ (r6 = (-1) → (L_X2_showUnlike_24 l g h5 x1 x3  Q))))))))))) : L_X2_showUnlike_0 l g h x0 x1 x3  Q := by
  refine wp_lload_n 1 dX2_showUnlike_0 rfl rfl ?_
  refine wp_callSN (as := [.long x1]) dX2_showUnlike_1 cb_X3_topOf lk_X2_90 st_X3_topOf rfl (Nat.le_of_ble_eq_true rfl) ⟨by decide, by decide⟩ ⟨Nat.le_refl _, Nat.le_refl _, Nat.le_refl _⟩ hb (fun r0 h2 hb => ?_)
  obtain ⟨r3, rfl, hb⟩ := hb
  refine wp_istore (lv2 := [(5, .int r3), (0, .ref x0), (1, .long x1), (3, .long x3)]) dX2_showUnlike_4 (by decide) rfl ?_
  refine wp_lload_n 3 dX2_showUnlike_6 rfl rfl ?_
  refine wp_callSN (as := [.long x3]) dX2_showUnlike_7 cb_X3_topOf lk_X2_90 st_X3_topOf rfl (Nat.le_of_ble_eq_true rfl) ⟨by decide, by decide⟩ ⟨Nat.le_refl _, Nat.le_refl _, Nat.le_refl _⟩ hb (fun r0 h5 hb => ?_)
  obtain ⟨r6, rfl, hb⟩ := hb
  refine wp_istore (lv2 := [(6, .int r6), (5, .int r3), (0, .ref x0), (1, .long x1), (3, .long x3)]) dX2_showUnlike_10 (by decide) rfl ?_
  refine wp_iload 1 dX2_showUnlike_12 rfl ?_
  refine wp_iconst (v := (-1)) dX2_showUnlike_14 (by decide) ?_
  refine wp_icmp_eq (tgt := 24) dX2_showUnlike_15 (by decide) (fun c7 => ?_) (fun c7 => ?_)
  · have hb := hb.1 c7
    exact wp_sub [3, 4] rfl hb
  · have hb := hb.2 c7
    refine wp_iload 0 dX2_showUnlike_18 rfl ?_
    refine wp_iconst (v := (-1)) dX2_showUnlike_20 (by decide) ?_
    refine wp_icmp_ne (tgt := 41) dX2_showUnlike_21 (by decide) (fun c8 => ?_) (fun c8 => ?_)
    · have hb := hb.1 c8
      obtain ⟨i9, hb⟩ := hb
      refine wp_aload_n 2 dX2_showUnlike_41 rfl rfl ?_
      obtain ⟨i10, hb⟩ := hb
      refine wp_getR dX2_showUnlike_42 fl_X2_29 i9 (i10.ne (by decide)) ?_
      obtain ⟨i11, hb⟩ := hb
      refine wp_getR dX2_showUnlike_45 fl_X2_106 i10 (i11.ne (by decide)) ?_
      refine wp_iload 1 dX2_showUnlike_48 rfl ?_
      obtain ⟨b12, hb⟩ := hb
      refine wp_laload dX2_showUnlike_50 i11 b12 ?_
      refine wp_aload_n 2 dX2_showUnlike_51 rfl rfl ?_
      obtain ⟨i13, hb⟩ := hb
      refine wp_getR dX2_showUnlike_52 fl_X2_33 i9 (i13.ne (by decide)) ?_
      obtain ⟨i14, hb⟩ := hb
      refine wp_getR dX2_showUnlike_55 fl_X2_106 i13 (i14.ne (by decide)) ?_
      refine wp_iload 0 dX2_showUnlike_58 rfl ?_
      obtain ⟨b15, hb⟩ := hb
      refine wp_laload dX2_showUnlike_60 i14 b15 ?_
      refine wp_lcmp dX2_showUnlike_61 ?_
      refine wp_if_ne (tgt := 110) dX2_showUnlike_62 (by decide) (fun c16 => ?_) (fun c16 => ?_)
      · have hb := hb.1 c16
        refine wp_iconst (v := 1) dX2_showUnlike_110 (by decide) ?_
        refine wp_goto (tgt := 115) dX2_showUnlike_111 (by decide) ?_
        exact wp_zret rfl dX2_showUnlike_115 (Or.inr rfl) ⟨_, rfl, hb⟩
      · have hb := hb.2 c16
        refine wp_aload_n 2 dX2_showUnlike_65 rfl rfl ?_
        refine wp_lload_n 3 dX2_showUnlike_66 rfl rfl ?_
        refine wp_iload 1 dX2_showUnlike_67 rfl ?_
        refine wp_lload_n 4 dX2_showUnlike_69 rfl rfl ?_
        refine wp_iload 0 dX2_showUnlike_70 rfl ?_
        refine wp_callV (as := [.long x1, .int r3, .long x3, .int r6]) dX2_showUnlike_72 cb_X2_numbersUnlike lk_X2_109 im_X2_numbersUnlike se_X2_numbersUnlike rfl (Nat.le_of_ble_eq_true rfl) ⟨by decide, by decide⟩ ⟨Nat.le_refl _, Nat.le_refl _, Nat.le_refl _⟩ i9 rfl (by decide) hb (fun r0 h18 hb => ?_)
        obtain ⟨r19, rfl, hb⟩ := hb
        refine wp_if_ne (tgt := 110) dX2_showUnlike_75 (by decide) (fun c20 => ?_) (fun c20 => ?_)
        · have hb := hb.1 c20
          refine wp_iconst (v := 1) dX2_showUnlike_110 (by decide) ?_
          refine wp_goto (tgt := 115) dX2_showUnlike_111 (by decide) ?_
          exact wp_zret rfl dX2_showUnlike_115 (Or.inr rfl) ⟨_, rfl, hb⟩
        · have hb := hb.2 c20
          refine wp_aload_n 2 dX2_showUnlike_78 rfl rfl ?_
          obtain ⟨i21, hb⟩ := hb
          refine wp_getR dX2_showUnlike_79 fl_X2_29 i9 (i21.ne (by decide)) ?_
          refine wp_lload_n 3 dX2_showUnlike_82 rfl rfl ?_
          refine wp_aload_n 2 dX2_showUnlike_83 rfl rfl ?_
          obtain ⟨i22, hb⟩ := hb
          refine wp_getR dX2_showUnlike_84 fl_X2_33 i9 (i22.ne (by decide)) ?_
          refine wp_lload_n 4 dX2_showUnlike_87 rfl rfl ?_
          refine wp_callS (as := [.ref (h18.2.2 x0 0), .long x1, .ref (h18.2.2 x0 1), .long x3]) dX2_showUnlike_88 cb_X2_oneMorePressed lk_X2_113 st_X2_oneMorePressed rfl (Nat.le_of_ble_eq_true rfl) ⟨by decide, by decide⟩ ⟨Nat.le_refl _, Nat.le_refl _, Nat.le_refl _⟩ hb (fun r0 h24 hb => ?_)
          obtain ⟨r25, rfl, hb⟩ := hb
          refine wp_if_ne (tgt := 110) dX2_showUnlike_91 (by decide) (fun c26 => ?_) (fun c26 => ?_)
          · have hb := hb.1 c26
            refine wp_iconst (v := 1) dX2_showUnlike_110 (by decide) ?_
            refine wp_goto (tgt := 115) dX2_showUnlike_111 (by decide) ?_
            exact wp_zret rfl dX2_showUnlike_115 (Or.inr rfl) ⟨_, rfl, hb⟩
          · have hb := hb.2 c26
            refine wp_aload_n 2 dX2_showUnlike_94 rfl rfl ?_
            obtain ⟨i27, hb⟩ := hb
            refine wp_getR dX2_showUnlike_95 fl_X2_33 i9 (i27.ne (by decide)) ?_
            refine wp_lload_n 4 dX2_showUnlike_98 rfl rfl ?_
            refine wp_aload_n 2 dX2_showUnlike_99 rfl rfl ?_
            obtain ⟨i28, hb⟩ := hb
            refine wp_getR dX2_showUnlike_100 fl_X2_29 i9 (i28.ne (by decide)) ?_
            refine wp_lload_n 3 dX2_showUnlike_103 rfl rfl ?_
            refine wp_callS (as := [.ref (h24.2.2 x0 1), .long x3, .ref (h24.2.2 x0 0), .long x1]) dX2_showUnlike_104 cb_X2_oneMorePressed lk_X2_113 st_X2_oneMorePressed rfl (Nat.le_of_ble_eq_true rfl) ⟨by decide, by decide⟩ ⟨Nat.le_refl _, Nat.le_refl _, Nat.le_refl _⟩ hb (fun r0 h30 hb => ?_)
            obtain ⟨r31, rfl, hb⟩ := hb
            refine wp_if_eq (tgt := 114) dX2_showUnlike_107 (by decide) (fun c32 => ?_) (fun c32 => ?_)
            · have hb := hb.1 c32
              refine wp_iconst (v := 0) dX2_showUnlike_114 (by decide) ?_
              exact wp_zret rfl dX2_showUnlike_115 (Or.inl rfl) ⟨_, rfl, hb⟩
            · have hb := hb.2 c32
              refine wp_iconst (v := 1) dX2_showUnlike_110 (by decide) ?_
              refine wp_goto (tgt := 115) dX2_showUnlike_111 (by decide) ?_
              exact wp_zret rfl dX2_showUnlike_115 (Or.inr rfl) ⟨_, rfl, hb⟩
    · have hb := hb.2 c8
      exact wp_sub [3, 4] rfl hb
set_option maxRecDepth 100000 in
set_option maxHeartbeats 4000000 in
theorem s_X2_showUnlike_24 {l : Launch} {g : AG} {h : AH} {x1 : Int64} {x3 : Int64}  {Q : Int32 → AH → Prop} (hb : C_X3_faultOf l g h x1 (fun r35 h34 => ( C_X3_faultOf l g h34 x3 (fun r38 h37 => ( ((r35 = r38 → (Q 0 h37)) ∧ (¬ (r35 = r38) → (Q 1 h37)))))))) : L_X2_showUnlike_24 l g h x1 x3  Q := by
  refine wp_lload_n 0 dX2_showUnlike_24 rfl rfl ?_
  refine wp_callSN (as := [.long x1]) dX2_showUnlike_25 cb_X3_faultOf lk_X2_103 st_X3_faultOf rfl (Nat.le_of_ble_eq_true rfl) ⟨by decide, by decide⟩ ⟨Nat.le_refl _, Nat.le_refl _, Nat.le_refl _⟩ hb (fun r0 h34 hb => ?_)
  obtain ⟨r35, rfl, hb⟩ := hb
  refine wp_lload_n 1 dX2_showUnlike_28 rfl rfl ?_
  refine wp_callSN (as := [.long x3]) dX2_showUnlike_29 cb_X3_faultOf lk_X2_103 st_X3_faultOf rfl (Nat.le_of_ble_eq_true rfl) ⟨by decide, by decide⟩ ⟨Nat.le_refl _, Nat.le_refl _, Nat.le_refl _⟩ hb (fun r0 h37 hb => ?_)
  obtain ⟨r38, rfl, hb⟩ := hb
  refine wp_icmp_eq (tgt := 39) dX2_showUnlike_32 (by decide) (fun c39 => ?_) (fun c39 => ?_)
  · have hb := hb.1 c39
    refine wp_iconst (v := 0) dX2_showUnlike_39 (by decide) ?_
    exact wp_zret rfl dX2_showUnlike_40 (Or.inl rfl) ⟨_, rfl, hb⟩
  · have hb := hb.2 c39
    refine wp_iconst (v := 1) dX2_showUnlike_35 (by decide) ?_
    refine wp_goto (tgt := 40) dX2_showUnlike_36 (by decide) ?_
    exact wp_zret rfl dX2_showUnlike_40 (Or.inr rfl) ⟨_, rfl, hb⟩
theorem c_X2_showUnlike {l : Launch} {g : AG} {h : AH} {x0 : Nat} {x1 : Int64} {x3 : Int64}  {Q : Int32 → AH → Prop} (hb : L_X2_showUnlike_0 l g h x0 x1 x3  Q) : C_X2_showUnlike l g h x0 x1 x3  Q := ax_met rfl (Nat.le_of_ble_eq_true rfl) hb
def C_X2_lookAt (l : Launch) (g : AG) (h : AH) (x0 : Nat) (x1 : Int32)  (Q : AH → Prop) : Prop := Ct l g mX2_lookAt 4 103 194 194 h [.ref x0, .int x1] (ax_QV Q)
def L_X2_lookAt_0 (l : Launch) (g : AG) (h : AH) (x0 : Nat) (x1 : Int32)  (Q : AH → Prop) : Prop := Wp l g mX2_lookAt 4 103 194 194 194 0 [(0, .ref x0), (1, .int x1)] [] h (FM g 194 194 (ax_QV Q))
set_option maxRecDepth 100000 in
set_option maxHeartbeats 4000000 in
theorem s_X2_lookAt_0 {l : Launch} {g : AG} {h : AH} {x0 : Nat} {x1 : Int32}  {Q : AH → Prop} (hb : (Is 194 x0 2) ∧ ( (Is 194 (h.2.2 x0 2) 5) ∧ ( ((h.1 (h.2.2 x0 2) 0 ≤ x1 → (Q h)) ∧ (¬ (h.1 (h.2.2 x0 2) 0 ≤ x1) → ((Is 194 (h.2.2 x0 2) 5) ∧ ( (Is 194 (h.2.2 (h.2.2 x0 2) 1) 21) ∧ ( (vp_in x1 (ax_s (h.2.2 (h.2.2 x0 2) 1)).2) ∧ ( (Is 194 (h.2.2 x0 2) 5) ∧ ( (Is 194 (h.2.2 (h.2.2 x0 2) 2) 21) ∧ ( (vp_in x1 (ax_s (h.2.2 (h.2.2 x0 2) 2)).2) ∧ ( C_X2_showUnlike l g h x0 (h.2.1 (h.2.2 (h.2.2 x0 2) 1) x1.toNatClampNeg) (h.2.1 (h.2.2 (h.2.2 x0 2) 2) x1.toNatClampNeg) (fun r12 h11 => ( ((r12 = 0 → (Q h11)) ∧ (¬ (r12 = 0) → (∀ h14 : AH, h14 = ax_setI h11 x0 4 x1 → ( Q h14)))))))))))))))))) : L_X2_lookAt_0 l g h x0 x1  Q := by
  refine wp_iload_n 1 dX2_lookAt_0 rfl rfl ?_
  obtain ⟨i1, hb⟩ := hb
  refine wp_aload_n 0 dX2_lookAt_1 rfl rfl ?_
  obtain ⟨i2, hb⟩ := hb
  refine wp_getR dX2_lookAt_2 fl_X2_12 i1 (i2.ne (by decide)) ?_
  refine wp_getI dX2_lookAt_5 fl_X2_53 i2 ?_
  refine wp_icmp_ge (tgt := 41) dX2_lookAt_8 (by decide) (fun c3 => ?_) (fun c3 => ?_)
  · have hb := hb.1 c3
    exact wp_vret rfl dX2_lookAt_41 ⟨rfl, hb⟩
  · have hb := hb.2 c3
    refine wp_aload_n 0 dX2_lookAt_11 rfl rfl ?_
    refine wp_aload_n 0 dX2_lookAt_12 rfl rfl ?_
    obtain ⟨i4, hb⟩ := hb
    refine wp_getR dX2_lookAt_13 fl_X2_12 i1 (i4.ne (by decide)) ?_
    obtain ⟨i5, hb⟩ := hb
    refine wp_getR dX2_lookAt_16 fl_X2_67 i4 (i5.ne (by decide)) ?_
    refine wp_iload_n 1 dX2_lookAt_19 rfl rfl ?_
    obtain ⟨b6, hb⟩ := hb
    refine wp_laload dX2_lookAt_20 i5 b6 ?_
    refine wp_aload_n 0 dX2_lookAt_21 rfl rfl ?_
    obtain ⟨i7, hb⟩ := hb
    refine wp_getR dX2_lookAt_22 fl_X2_12 i1 (i7.ne (by decide)) ?_
    obtain ⟨i8, hb⟩ := hb
    refine wp_getR dX2_lookAt_25 fl_X2_71 i7 (i8.ne (by decide)) ?_
    refine wp_iload_n 1 dX2_lookAt_28 rfl rfl ?_
    obtain ⟨b9, hb⟩ := hb
    refine wp_laload dX2_lookAt_29 i8 b9 ?_
    refine wp_callV (as := [.long (h.2.1 (h.2.2 (h.2.2 x0 2) 1) x1.toNatClampNeg), .long (h.2.1 (h.2.2 (h.2.2 x0 2) 2) x1.toNatClampNeg)]) dX2_lookAt_30 cb_X2_showUnlike lk_X2_86 im_X2_showUnlike se_X2_showUnlike rfl (Nat.le_of_ble_eq_true rfl) ⟨by decide, by decide⟩ ⟨Nat.le_refl _, Nat.le_refl _, Nat.le_refl _⟩ i1 rfl (by decide) hb (fun r0 h11 hb => ?_)
    obtain ⟨r12, rfl, hb⟩ := hb
    refine wp_if_eq (tgt := 41) dX2_lookAt_33 (by decide) (fun c13 => ?_) (fun c13 => ?_)
    · have hb := hb.1 c13
      exact wp_vret rfl dX2_lookAt_41 ⟨rfl, hb⟩
    · have hb := hb.2 c13
      refine wp_aload_n 0 dX2_lookAt_36 rfl rfl ?_
      refine wp_iload_n 1 dX2_lookAt_37 rfl rfl ?_
      refine wp_putI dX2_lookAt_38 fl_X2_22 (Or.inl rfl) i1 ?_
      refine wp_topH (fun h14 e15 => ?_)
      have hb := hb h14 e15
      exact wp_vret rfl dX2_lookAt_41 ⟨rfl, hb⟩
theorem c_X2_lookAt {l : Launch} {g : AG} {h : AH} {x0 : Nat} {x1 : Int32}  {Q : AH → Prop} (hb : L_X2_lookAt_0 l g h x0 x1  Q) : C_X2_lookAt l g h x0 x1  Q := ax_met rfl (Nat.le_of_ble_eq_true rfl) hb
