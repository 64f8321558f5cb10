def C_X7_takeDeedWindow (l : Launch) (g : AG) (h : AH) (x0 : Nat)  (Q : Int32 → AH → Prop) : Prop := Ct l g mX7_takeDeedWindow 1 25 194 194 h [.ref x0] (ax_QI Q)
def L_X7_takeDeedWindow_0 (l : Launch) (g : AG) (h : AH) (x0 : Nat)  (Q : Int32 → AH → Prop) : Prop := Wp l g mX7_takeDeedWindow 1 25 194 194 194 0 [(0, .ref x0)] [] h (FM g 194 194 (ax_QI Q))
set_option maxRecDepth 100000 in
set_option maxHeartbeats 4000000 in
theorem s_X7_takeDeedWindow_0 {l : Launch} {g : AG} {h : AH} {x0 : Nat}  {Q : Int32 → AH → Prop} (hb : (Is 194 x0 6) ∧ ( (Is 194 (h.2.2 x0 0) 7) ∧ ( ((h.1 (h.2.2 x0 0) 3 = 1 → ((Is 194 (h.2.2 x0 12) 20) ∧ ( (Is 194 (h.2.2 x0 1) 0) ∧ ( (Is 194 (h.2.2 (h.2.2 x0 1) 18) 4) ∧ ( C_X5_add l g h (h.2.2 (h.2.2 x0 1) 18) (h.1 x0 10) (h.1 x0 9) 0 0 (fun r9 h8 => ( (vp_in (h.1 x0 11) (ax_s (h.2.2 x0 12)).2) ∧ ( ∀ h11 : AH, h11 = ax_setI h8 (h.2.2 x0 12) (h.1 x0 11).toNatClampNeg r9 → ( (Is 194 (h11.2.2 x0 13) 21) ∧ ( (Is 194 (h11.2.2 x0 0) 7) ∧ ( (vp_in (h11.1 x0 11) (ax_s (h11.2.2 x0 13)).2) ∧ ( ∀ h16 : AH, h16 = ax_setL h11 (h11.2.2 x0 13) (h11.1 x0 11).toNatClampNeg (h11.2.1 (h11.2.2 x0 0) 5) → ( (Is 194 (h16.2.2 x0 14) 20) ∧ ( (Is 194 (h16.2.2 x0 0) 7) ∧ ( (vp_in (h16.1 x0 11) (ax_s (h16.2.2 x0 14)).2) ∧ ( ∀ h21 : AH, h21 = ax_setI h16 (h16.2.2 x0 14) (h16.1 x0 11).toNatClampNeg (h16.1 (h16.2.2 x0 0) 4) → ( ∀ h23 : AH, h23 = ax_setI h21 x0 11 ((h21.1 x0 11) + 1) → ( C_X7_awaits l g h23 x0 21 (fun r27 h26 => ( (r27 = 0 ∨ r27 = 1) ∧ ( Q r27 h26))))))))))))))))))))) ∧ (¬ (h.1 (h.2.2 x0 0) 3 = 1) → (C_X7_faulty l g h x0 1 (fun r31 h30 => ( (r31 = 0 ∨ r31 = 1) ∧ ( Q r31 h30))))))))) : L_X7_takeDeedWindow_0 l g h x0  Q := by
  obtain ⟨i1, hb⟩ := hb
  refine wp_aload_n 0 dX7_takeDeedWindow_0 rfl rfl ?_
  obtain ⟨i2, hb⟩ := hb
  refine wp_getR dX7_takeDeedWindow_1 fl_X7_12 i1 (i2.ne (by decide)) ?_
  refine wp_getI dX7_takeDeedWindow_4 fl_X7_80 i2 ?_
  refine wp_iconst (v := 1) dX7_takeDeedWindow_7 (by decide) ?_
  refine wp_icmp_eq (tgt := 17) dX7_takeDeedWindow_8 (by decide) (fun c3 => ?_) (fun c3 => ?_)
  · have hb := hb.1 c3
    refine wp_aload_n 0 dX7_takeDeedWindow_17 rfl rfl ?_
    obtain ⟨i4, hb⟩ := hb
    refine wp_getR dX7_takeDeedWindow_18 fl_X7_53 i1 (i4.ne (by decide)) ?_
    refine wp_aload_n 0 dX7_takeDeedWindow_21 rfl rfl ?_
    refine wp_getI dX7_takeDeedWindow_22 fl_X7_48 i1 ?_
    refine wp_aload_n 0 dX7_takeDeedWindow_25 rfl rfl ?_
    obtain ⟨i5, hb⟩ := hb
    refine wp_getR dX7_takeDeedWindow_26 fl_X7_64 i1 (i5.ne (by decide)) ?_
    obtain ⟨i6, hb⟩ := hb
    refine wp_getR dX7_takeDeedWindow_29 fl_X7_263 i5 (i6.ne (by decide)) ?_
    refine wp_aload_n 0 dX7_takeDeedWindow_32 rfl rfl ?_
    refine wp_getI dX7_takeDeedWindow_33 fl_X7_45 i1 ?_
    refine wp_aload_n 0 dX7_takeDeedWindow_36 rfl rfl ?_
    refine wp_getI dX7_takeDeedWindow_37 fl_X7_42 i1 ?_
    refine wp_iconst (v := 0) dX7_takeDeedWindow_40 (by decide) ?_
    refine wp_iconst (v := 0) dX7_takeDeedWindow_41 (by decide) ?_
    refine wp_callVN (as := [.int (h.1 x0 10), .int (h.1 x0 9), .int 0, .int 0]) dX7_takeDeedWindow_42 cb_X5_add lk_X7_268 im_X5_add se_X5_add rfl (Nat.le_of_ble_eq_true rfl) ⟨by decide, by decide⟩ ⟨Nat.le_refl _, Nat.le_refl _, Nat.le_refl _⟩ i6 rfl (by decide) hb (fun r0 h8 hb => ?_)
    obtain ⟨r9, rfl, hb⟩ := hb
    obtain ⟨b10, hb⟩ := hb
    refine wp_iastore dX7_takeDeedWindow_45 i4 b10 ?_
    refine wp_topH (fun h11 e12 => ?_)
    have hb := hb h11 e12
    refine wp_aload_n 0 dX7_takeDeedWindow_46 rfl rfl ?_
    obtain ⟨i13, hb⟩ := hb
    refine wp_getR dX7_takeDeedWindow_47 fl_X7_57 i1 (i13.ne (by decide)) ?_
    refine wp_aload_n 0 dX7_takeDeedWindow_50 rfl rfl ?_
    refine wp_getI dX7_takeDeedWindow_51 fl_X7_48 i1 ?_
    refine wp_aload_n 0 dX7_takeDeedWindow_54 rfl rfl ?_
    obtain ⟨i14, hb⟩ := hb
    refine wp_getR dX7_takeDeedWindow_55 fl_X7_12 i1 (i14.ne (by decide)) ?_
    refine wp_getL dX7_takeDeedWindow_58 fl_X7_168 i14 ?_
    obtain ⟨b15, hb⟩ := hb
    refine wp_lastore dX7_takeDeedWindow_61 i13 b15 ?_
    refine wp_topH (fun h16 e17 => ?_)
    have hb := hb h16 e17
    refine wp_aload_n 0 dX7_takeDeedWindow_62 rfl rfl ?_
    obtain ⟨i18, hb⟩ := hb
    refine wp_getR dX7_takeDeedWindow_63 fl_X7_61 i1 (i18.ne (by decide)) ?_
    refine wp_aload_n 0 dX7_takeDeedWindow_66 rfl rfl ?_
    refine wp_getI dX7_takeDeedWindow_67 fl_X7_48 i1 ?_
    refine wp_aload_n 0 dX7_takeDeedWindow_70 rfl rfl ?_
    obtain ⟨i19, hb⟩ := hb
    refine wp_getR dX7_takeDeedWindow_71 fl_X7_12 i1 (i19.ne (by decide)) ?_
    refine wp_getI dX7_takeDeedWindow_74 fl_X7_97 i19 ?_
    obtain ⟨b20, hb⟩ := hb
    refine wp_iastore dX7_takeDeedWindow_77 i18 b20 ?_
    refine wp_topH (fun h21 e22 => ?_)
    have hb := hb h21 e22
    refine wp_aload_n 0 dX7_takeDeedWindow_78 rfl rfl ?_
    refine wp_dup dX7_takeDeedWindow_79 rfl ?_
    refine wp_getI dX7_takeDeedWindow_80 fl_X7_48 i1 ?_
    refine wp_iconst (v := 1) dX7_takeDeedWindow_83 (by decide) ?_
    refine wp_iadd dX7_takeDeedWindow_84 ?_
    refine wp_putI dX7_takeDeedWindow_85 fl_X7_48 (Or.inl rfl) i1 ?_
    refine wp_topH (fun h23 e24 => ?_)
    have hb := hb h23 e24
    refine wp_aload_n 0 dX7_takeDeedWindow_88 rfl rfl ?_
    refine wp_bipush (v := 21) dX7_takeDeedWindow_89 (by decide) ?_
    refine wp_callV (as := [.int 21]) dX7_takeDeedWindow_91 cb_X7_awaits lk_X7_131 im_X7_awaits se_X7_awaits rfl (Nat.le_of_ble_eq_true rfl) ⟨by decide, by decide⟩ ⟨Nat.le_refl _, Nat.le_refl _, Nat.le_refl _⟩ i1 rfl (by decide) hb (fun r0 h26 hb => ?_)
    obtain ⟨r27, rfl, hb⟩ := hb
    obtain ⟨q28, hb⟩ := hb
    exact wp_zret rfl dX7_takeDeedWindow_94 q28 ⟨_, rfl, hb⟩
  · have hb := hb.2 c3
    refine wp_aload_n 0 dX7_takeDeedWindow_11 rfl rfl ?_
    refine wp_iconst (v := 1) dX7_takeDeedWindow_12 (by decide) ?_
    refine wp_callV (as := [.int 1]) dX7_takeDeedWindow_13 cb_X7_faulty lk_X7_90 im_X7_faulty se_X7_faulty rfl (Nat.le_of_ble_eq_true rfl) ⟨by decide, by decide⟩ ⟨Nat.le_refl _, Nat.le_refl _, Nat.le_refl _⟩ i1 rfl (by decide) hb (fun r0 h30 hb => ?_)
    obtain ⟨r31, rfl, hb⟩ := hb
    obtain ⟨q32, hb⟩ := hb
    exact wp_zret rfl dX7_takeDeedWindow_16 q32 ⟨_, rfl, hb⟩
theorem c_X7_takeDeedWindow {l : Launch} {g : AG} {h : AH} {x0 : Nat}  {Q : Int32 → AH → Prop} (hb : L_X7_takeDeedWindow_0 l g h x0  Q) : C_X7_takeDeedWindow l g h x0  Q := ax_met rfl rfl (Nat.le_of_ble_eq_true rfl) hb
def C_X7_takeDeedVar (l : Launch) (g : AG) (h : AH) (x0 : Nat)  (Q : Int32 → AH → Prop) : Prop := Ct l g mX7_takeDeedVar 3 67 194 194 h [.ref x0] (ax_QI Q)
def L_X7_takeDeedVar_0 (l : Launch) (g : AG) (h : AH) (x0 : Nat)  (Q : Int32 → AH → Prop) : Prop := Wp l g mX7_takeDeedVar 3 67 194 194 194 0 [(0, .ref x0)] [] h (FM g 194 194 (ax_QI Q))
set_option maxRecDepth 100000 in
set_option maxHeartbeats 4000000 in
theorem s_X7_takeDeedVar_0 {l : Launch} {g : AG} {h : AH} {x0 : Nat}  {Q : Int32 → AH → Prop} (hb : (Is 194 x0 6) ∧ ( C_X7_isVar l g h x0 (fun r4 h3 => ( ((r4 = 0 → (Q 0 h3)) ∧ (¬ (r4 = 0) → (C_X7_awaits l g h3 x0 20 (fun r8 h7 => ( ((r8 = 0 → (Q 0 h7)) ∧ (¬ (r8 = 0) → (Q 1 h7)))))))))))) : L_X7_takeDeedVar_0 l g h x0  Q := by
  obtain ⟨i1, hb⟩ := hb
  refine wp_aload_n 0 dX7_takeDeedVar_0 rfl rfl ?_
  refine wp_callV (as := []) dX7_takeDeedVar_1 cb_X7_isVar lk_X7_221 im_X7_isVar se_X7_isVar rfl (Nat.le_of_ble_eq_true rfl) ⟨by decide, by decide⟩ ⟨Nat.le_refl _, Nat.le_refl _, Nat.le_refl _⟩ i1 rfl (by decide) hb (fun r0 h3 hb => ?_)
  obtain ⟨r4, rfl, hb⟩ := hb
  refine wp_if_eq (tgt := 20) dX7_takeDeedVar_4 (by decide) (fun c5 => ?_) (fun c5 => ?_)
  · have hb := hb.1 c5
    refine wp_iconst (v := 0) dX7_takeDeedVar_20 (by decide) ?_
    exact wp_zret rfl dX7_takeDeedVar_21 (Or.inl rfl) ⟨_, rfl, hb⟩
  · have hb := hb.2 c5
    refine wp_aload_n 0 dX7_takeDeedVar_7 rfl rfl ?_
    refine wp_bipush (v := 20) dX7_takeDeedVar_8 (by decide) ?_
    refine wp_callV (as := [.int 20]) dX7_takeDeedVar_10 cb_X7_awaits lk_X7_131 im_X7_awaits se_X7_awaits rfl (Nat.le_of_ble_eq_true rfl) ⟨by decide, by decide⟩ ⟨Nat.le_refl _, Nat.le_refl _, Nat.le_refl _⟩ i1 rfl (by decide) hb (fun r0 h7 hb => ?_)
    obtain ⟨r8, rfl, hb⟩ := hb
    refine wp_if_eq (tgt := 20) dX7_takeDeedVar_13 (by decide) (fun c9 => ?_) (fun c9 => ?_)
    · have hb := hb.1 c9
      refine wp_iconst (v := 0) dX7_takeDeedVar_20 (by decide) ?_
      exact wp_zret rfl dX7_takeDeedVar_21 (Or.inl rfl) ⟨_, rfl, hb⟩
    · have hb := hb.2 c9
      refine wp_iconst (v := 1) dX7_takeDeedVar_16 (by decide) ?_
      refine wp_goto (tgt := 21) dX7_takeDeedVar_17 (by decide) ?_
      exact wp_zret rfl dX7_takeDeedVar_21 (Or.inr rfl) ⟨_, rfl, hb⟩
theorem c_X7_takeDeedVar {l : Launch} {g : AG} {h : AH} {x0 : Nat}  {Q : Int32 → AH → Prop} (hb : L_X7_takeDeedVar_0 l g h x0  Q) : C_X7_takeDeedVar l g h x0  Q := ax_met rfl rfl (Nat.le_of_ble_eq_true rfl) hb
def C_X7_takeDeedNumber (l : Launch) (g : AG) (h : AH) (x0 : Nat)  (Q : Int32 → AH → Prop) : Prop := Ct l g mX7_takeDeedNumber 2 43 194 194 h [.ref x0] (ax_QI Q)
def L_X7_takeDeedNumber_0 (l : Launch) (g : AG) (h : AH) (x0 : Nat)  (Q : Int32 → AH → Prop) : Prop := Wp l g mX7_takeDeedNumber 2 43 194 194 194 0 [(0, .ref x0)] [] h (FM g 194 194 (ax_QI Q))
def L_X7_takeDeedNumber_13 (l : Launch) (g : AG) (h : AH) (x0 : Nat) (s0 : Int32) (Q : Int32 → AH → Prop) : Prop := Wp l g mX7_takeDeedNumber 2 43 194 194 194 13 [(0, .ref x0)] [.int s0] h (FM g 194 194 (ax_QI Q))
def L_X7_takeDeedNumber_29 (l : Launch) (g : AG) (h : AH) (x0 : Nat) (x1 : Int32) (s0 : Int32) (Q : Int32 → AH → Prop) : Prop := Wp l g mX7_takeDeedNumber 2 43 194 194 194 29 [(0, .ref x0), (1, .int x1)] [.int s0] h (FM g 194 194 (ax_QI Q))
def L_X7_takeDeedNumber_51 (l : Launch) (g : AG) (h : AH) (x0 : Nat) (x1 : Int32) (x2 : Int32)  (Q : Int32 → AH → Prop) : Prop := Wp l g mX7_takeDeedNumber 2 43 194 194 194 51 [(0, .ref x0), (1, .int x1), (2, .int x2)] [] h (FM g 194 194 (ax_QI Q))
set_option maxRecDepth 100000 in
set_option maxHeartbeats 4000000 in
theorem s_X7_takeDeedNumber_0 {l : Launch} {g : AG} {h : AH} {x0 : Nat}  {Q : Int32 → AH → Prop} (hb : (Is 194 x0 6) ∧ ( ((¬ h.1 x0 9 = 2 → (L_X7_takeDeedNumber_13 l g h x0 1 Q)) ∧ (h.1 x0 9 = 2 → (L_X7_takeDeedNumber_13 l g h x0 0 Q))))) : L_X7_takeDeedNumber_0 l g h x0  Q := by
  obtain ⟨i1, hb⟩ := hb
  refine wp_aload_n 0 dX7_takeDeedNumber_0 rfl rfl ?_
  refine wp_getI dX7_takeDeedNumber_1 fl_X7_42 i1 ?_
  refine wp_iconst (v := 2) dX7_takeDeedNumber_4 (by decide) ?_
  refine wp_icmp_ne (tgt := 12) dX7_takeDeedNumber_5 (by decide) (fun c2 => ?_) (fun c2 => ?_)
  · have hb := hb.1 c2
    refine wp_iconst (v := 1) dX7_takeDeedNumber_12 (by decide) ?_
    exact hb
  · have hb := hb.2 c2
    refine wp_iconst (v := 0) dX7_takeDeedNumber_8 (by decide) ?_
    refine wp_goto (tgt := 13) dX7_takeDeedNumber_9 (by decide) ?_
    exact hb
set_option maxRecDepth 100000 in
set_option maxHeartbeats 4000000 in
theorem s_X7_takeDeedNumber_13 {l : Launch} {g : AG} {h : AH} {x0 : Nat} {s0 : Int32} {Q : Int32 → AH → Prop} (hb : (Is 194 x0 6) ∧ ( ((¬ h.1 x0 9 = 4 → (L_X7_takeDeedNumber_29 l g h x0 s0 9 Q)) ∧ (h.1 x0 9 = 4 → (L_X7_takeDeedNumber_29 l g h x0 s0 20 Q))))) : L_X7_takeDeedNumber_13 l g h x0 s0 Q := by
  refine wp_istore_n (lv2 := [(1, .int s0), (0, .ref x0)]) dX7_takeDeedNumber_13 rfl (by decide) rfl ?_
  obtain ⟨i3, hb⟩ := hb
  refine wp_aload_n 1 dX7_takeDeedNumber_14 rfl rfl ?_
  refine wp_getI dX7_takeDeedNumber_15 fl_X7_42 i3 ?_
  refine wp_iconst (v := 4) dX7_takeDeedNumber_18 (by decide) ?_
  refine wp_icmp_ne (tgt := 27) dX7_takeDeedNumber_19 (by decide) (fun c4 => ?_) (fun c4 => ?_)
  · have hb := hb.1 c4
    refine wp_bipush (v := 9) dX7_takeDeedNumber_27 (by decide) ?_
    exact wp_sub [1, 0] rfl hb
  · have hb := hb.2 c4
    refine wp_bipush (v := 20) dX7_takeDeedNumber_22 (by decide) ?_
    refine wp_goto (tgt := 29) dX7_takeDeedNumber_24 (by decide) ?_
    exact wp_sub [1, 0] rfl hb
set_option maxRecDepth 100000 in
set_option maxHeartbeats 4000000 in
theorem s_X7_takeDeedNumber_29 {l : Launch} {g : AG} {h : AH} {x0 : Nat} {x1 : Int32} {s0 : Int32} {Q : Int32 → AH → Prop} (hb : (Is 194 x0 6) ∧ ( ((¬ h.1 x0 9 = 2 → (L_X7_takeDeedNumber_51 l g h x0 x1 s0  Q)) ∧ (h.1 x0 9 = 2 → ((Is 194 (h.2.2 x0 1) 0) ∧ ( (Is 194 (h.2.2 (h.2.2 x0 1) 10) 20) ∧ ( (vp_in (h.1 x0 7) (ax_s (h.2.2 (h.2.2 x0 1) 10)).2) ∧ ( ∀ v10 : Int32, v10 = (h.1 (h.2.2 (h.2.2 x0 1) 10) (h.1 x0 7).toNatClampNeg) → ( L_X7_takeDeedNumber_51 l g h x0 x1 v10  Q))))))))) : L_X7_takeDeedNumber_29 l g h x0 x1 s0 Q := by
  refine wp_istore_n (lv2 := [(2, .int s0), (0, .ref x0), (1, .int x1)]) dX7_takeDeedNumber_29 rfl (by decide) rfl ?_
  obtain ⟨i5, hb⟩ := hb
  refine wp_aload_n 1 dX7_takeDeedNumber_30 rfl rfl ?_
  refine wp_getI dX7_takeDeedNumber_31 fl_X7_42 i5 ?_
  refine wp_iconst (v := 2) dX7_takeDeedNumber_34 (by decide) ?_
  refine wp_icmp_ne (tgt := 51) dX7_takeDeedNumber_35 (by decide) (fun c6 => ?_) (fun c6 => ?_)
  · have hb := hb.1 c6
    exact wp_sub [1, 2, 0] rfl hb
  · have hb := hb.2 c6
    refine wp_aload_n 1 dX7_takeDeedNumber_38 rfl rfl ?_
    obtain ⟨i7, hb⟩ := hb
    refine wp_getR dX7_takeDeedNumber_39 fl_X7_64 i5 (i7.ne (by decide)) ?_
    obtain ⟨i8, hb⟩ := hb
    refine wp_getR dX7_takeDeedNumber_42 fl_X7_279 i7 (i8.ne (by decide)) ?_
    refine wp_aload_n 1 dX7_takeDeedNumber_45 rfl rfl ?_
    refine wp_getI dX7_takeDeedNumber_46 fl_X7_36 i5 ?_
    obtain ⟨b9, hb⟩ := hb
    refine wp_iaload dX7_takeDeedNumber_49 i8 b9 ?_
    refine wp_topi (fun v10 e11 => ?_)
    have hb := hb v10 e11
    refine wp_istore_n (lv2 := [(2, .int v10), (0, .ref x0), (1, .int x1)]) dX7_takeDeedNumber_50 rfl (by decide) rfl ?_
    exact wp_sub [1, 2, 0] rfl hb
set_option maxRecDepth 100000 in
set_option maxHeartbeats 4000000 in
theorem s_X7_takeDeedNumber_51 {l : Launch} {g : AG} {h : AH} {x0 : Nat} {x1 : Int32} {x2 : Int32}  {Q : Int32 → AH → Prop} (hb : (Is 194 x0 6) ∧ ( C_X7_isNumber l g h x0 x1 x2 (fun r15 h14 => ( ((¬ r15 = 0 → ((Is 194 (h14.2.2 x0 1) 0) ∧ ( (Is 194 (h14.2.2 (h14.2.2 x0 1) 18) 4) ∧ ( (Is 194 (h14.2.2 x0 0) 7) ∧ ( C_X5_add l g h14 (h14.2.2 (h14.2.2 x0 1) 18) (h14.1 x0 10) (h14.1 x0 9) (h14.1 x0 7) (h14.1 (h14.2.2 x0 0) 6) (fun r22 h21 => ( C_X7_awaits l g h21 x0 21 (fun r25 h24 => ( (r25 = 0 ∨ r25 = 1) ∧ ( Q r25 h24)))))))))) ∧ (r15 = 0 → (Q 0 h14))))))) : L_X7_takeDeedNumber_51 l g h x0 x1 x2  Q := by
  obtain ⟨i12, hb⟩ := hb
  refine wp_aload_n 0 dX7_takeDeedNumber_51 rfl rfl ?_
  refine wp_iload_n 1 dX7_takeDeedNumber_52 rfl rfl ?_
  refine wp_iload_n 2 dX7_takeDeedNumber_53 rfl rfl ?_
  refine wp_callV (as := [.int x1, .int x2]) dX7_takeDeedNumber_54 cb_X7_isNumber lk_X7_186 im_X7_isNumber se_X7_isNumber rfl (Nat.le_of_ble_eq_true rfl) ⟨by decide, by decide⟩ ⟨Nat.le_refl _, Nat.le_refl _, Nat.le_refl _⟩ i12 rfl (by decide) hb (fun r0 h14 hb => ?_)
  obtain ⟨r15, rfl, hb⟩ := hb
  refine wp_if_ne (tgt := 62) dX7_takeDeedNumber_57 (by decide) (fun c16 => ?_) (fun c16 => ?_)
  · have hb := hb.1 c16
    refine wp_aload_n 0 dX7_takeDeedNumber_62 rfl rfl ?_
    obtain ⟨i17, hb⟩ := hb
    refine wp_getR dX7_takeDeedNumber_63 fl_X7_64 i12 (i17.ne (by decide)) ?_
    obtain ⟨i18, hb⟩ := hb
    refine wp_getR dX7_takeDeedNumber_66 fl_X7_263 i17 (i18.ne (by decide)) ?_
    refine wp_aload_n 0 dX7_takeDeedNumber_69 rfl rfl ?_
    refine wp_getI dX7_takeDeedNumber_70 fl_X7_45 i12 ?_
    refine wp_aload_n 0 dX7_takeDeedNumber_73 rfl rfl ?_
    refine wp_getI dX7_takeDeedNumber_74 fl_X7_42 i12 ?_
    refine wp_aload_n 0 dX7_takeDeedNumber_77 rfl rfl ?_
    refine wp_getI dX7_takeDeedNumber_78 fl_X7_36 i12 ?_
    refine wp_aload_n 0 dX7_takeDeedNumber_81 rfl rfl ?_
    obtain ⟨i19, hb⟩ := hb
    refine wp_getR dX7_takeDeedNumber_82 fl_X7_12 i12 (i19.ne (by decide)) ?_
    refine wp_getI dX7_takeDeedNumber_85 fl_X7_165 i19 ?_
    refine wp_callVN (as := [.int (h14.1 x0 10), .int (h14.1 x0 9), .int (h14.1 x0 7), .int (h14.1 (h14.2.2 x0 0) 6)]) dX7_takeDeedNumber_88 cb_X5_add lk_X7_268 im_X5_add se_X5_add rfl (Nat.le_of_ble_eq_true rfl) ⟨by decide, by decide⟩ ⟨Nat.le_refl _, Nat.le_refl _, Nat.le_refl _⟩ i18 rfl (by decide) hb (fun r0 h21 hb => ?_)
    obtain ⟨r22, rfl, hb⟩ := hb
    refine wp_pop dX7_takeDeedNumber_91 rfl ?_
    refine wp_aload_n 0 dX7_takeDeedNumber_92 rfl rfl ?_
    refine wp_bipush (v := 21) dX7_takeDeedNumber_93 (by decide) ?_
    refine wp_callV (as := [.int 21]) dX7_takeDeedNumber_95 cb_X7_awaits lk_X7_131 im_X7_awaits se_X7_awaits rfl (Nat.le_of_ble_eq_true rfl) ⟨by decide, by decide⟩ ⟨Nat.le_refl _, Nat.le_refl _, Nat.le_refl _⟩ i12 rfl (by decide) hb (fun r0 h24 hb => ?_)
    obtain ⟨r25, rfl, hb⟩ := hb
    obtain ⟨q26, hb⟩ := hb
    exact wp_zret rfl dX7_takeDeedNumber_98 q26 ⟨_, rfl, hb⟩
  · have hb := hb.2 c16
    refine wp_iconst (v := 0) dX7_takeDeedNumber_60 (by decide) ?_
    exact wp_zret rfl dX7_takeDeedNumber_61 (Or.inl rfl) ⟨_, rfl, hb⟩
theorem c_X7_takeDeedNumber {l : Launch} {g : AG} {h : AH} {x0 : Nat}  {Q : Int32 → AH → Prop} (hb : L_X7_takeDeedNumber_0 l g h x0  Q) : C_X7_takeDeedNumber l g h x0  Q := ax_met rfl rfl (Nat.le_of_ble_eq_true rfl) hb
def C_X7_taken (l : Launch) (g : AG) (h : AH) (x0 : Nat)  (Q : Int32 → AH → Prop) : Prop := Ct l g mX7_taken 7 182 194 194 h [.ref x0] (ax_QI Q)
def L_X7_taken_0 (l : Launch) (g : AG) (h : AH) (x0 : Nat)  (Q : Int32 → AH → Prop) : Prop := Wp l g mX7_taken 7 182 194 194 194 0 [(0, .ref x0)] [] h (FM g 194 194 (ax_QI Q))
set_option maxRecDepth 100000 in
set_option maxHeartbeats 4000000 in
theorem s_X7_taken_0 {l : Launch} {g : AG} {h : AH} {x0 : Nat}  {Q : Int32 → AH → Prop} (hb : (Is 194 x0 6) ∧ ( ((h.1 x0 2 = 0 → (C_X7_takeTop l g h x0 (fun r5 h4 => ( (r5 = 0 ∨ r5 = 1) ∧ ( Q r5 h4))))) ∧ (¬ h.1 x0 2 = 0 → (((h.1 x0 2 = 1 → (C_X7_takeVarName l g h x0 (fun r10 h9 => ( (r10 = 0 ∨ r10 = 1) ∧ ( Q r10 h9))))) ∧ (¬ h.1 x0 2 = 1 → (((h.1 x0 2 = 2 → (C_X7_takeVarMost l g h x0 (fun r15 h14 => ( (r15 = 0 ∨ r15 = 1) ∧ ( Q r15 h14))))) ∧ (¬ h.1 x0 2 = 2 → (((h.1 x0 2 = 3 → (C_X7_takeSign l g h x0 59 0 (fun r20 h19 => ( (r20 = 0 ∨ r20 = 1) ∧ ( Q r20 h19))))) ∧ (¬ h.1 x0 2 = 3 → (((h.1 x0 2 = 4 → (C_X7_takeWindowName l g h x0 (fun r25 h24 => ( (r25 = 0 ∨ r25 = 1) ∧ ( Q r25 h24))))) ∧ (¬ h.1 x0 2 = 4 → (((h.1 x0 2 = 5 → (C_X7_takeSign l g h x0 123 6 (fun r30 h29 => ( (r30 = 0 ∨ r30 = 1) ∧ ( Q r30 h29))))) ∧ (¬ h.1 x0 2 = 5 → (((h.1 x0 2 = 6 → (C_X7_takePart l g h x0 (fun r35 h34 => ( (r35 = 0 ∨ r35 = 1) ∧ ( Q r35 h34))))) ∧ (¬ h.1 x0 2 = 6 → (((h.1 x0 2 = 7 → (C_X7_takeShowName l g h x0 (fun r40 h39 => ( (r40 = 0 ∨ r40 = 1) ∧ ( Q r40 h39))))) ∧ (¬ h.1 x0 2 = 7 → (((h.1 x0 2 = 8 → (C_X7_takeSign l g h x0 59 6 (fun r45 h44 => ( (r45 = 0 ∨ r45 = 1) ∧ ( Q r45 h44))))) ∧ (¬ h.1 x0 2 = 8 → (((h.1 x0 2 = 9 → (C_X7_takeButtonName l g h x0 (fun r50 h49 => ( (r50 = 0 ∨ r50 = 1) ∧ ( Q r50 h49))))) ∧ (¬ h.1 x0 2 = 9 → (((h.1 x0 2 = 10 → ((Is 194 (h.2.2 x0 0) 7) ∧ ( C_X8_says l g h (h.2.2 x0 0) 1007 (fun r56 h55 => ( ((r56 = 0 → (C_X7_takeDo l g h55 x0 (fun r60 h59 => ( (r60 = 0 ∨ r60 = 1) ∧ ( Q r60 h59))))) ∧ (¬ (r56 = 0) → (C_X7_awaits l g h55 x0 11 (fun r64 h63 => ( (r64 = 0 ∨ r64 = 1) ∧ ( Q r64 h63))))))))))) ∧ (¬ h.1 x0 2 = 10 → (((h.1 x0 2 = 11 → (C_X7_takeCondName l g h x0 (fun r69 h68 => ( (r69 = 0 ∨ r69 = 1) ∧ ( Q r69 h68))))) ∧ (¬ h.1 x0 2 = 11 → (((h.1 x0 2 = 12 → (C_X7_takeCondSign l g h x0 (fun r74 h73 => ( (r74 = 0 ∨ r74 = 1) ∧ ( Q r74 h73))))) ∧ (¬ h.1 x0 2 = 12 → (((h.1 x0 2 = 13 → (C_X7_takeCondNumber l g h x0 (fun r79 h78 => ( (r79 = 0 ∨ r79 = 1) ∧ ( Q r79 h78))))) ∧ (¬ h.1 x0 2 = 13 → (((h.1 x0 2 = 14 → ((Is 194 (h.2.2 x0 0) 7) ∧ ( C_X8_says l g h (h.2.2 x0 0) 1002 (fun r85 h84 => ( ((r85 = 0 → (C_X7_takeDo l g h84 x0 (fun r89 h88 => ( (r89 = 0 ∨ r89 = 1) ∧ ( Q r89 h88))))) ∧ (¬ (r85 = 0) → (C_X7_awaits l g h84 x0 11 (fun r93 h92 => ( (r93 = 0 ∨ r93 = 1) ∧ ( Q r93 h92))))))))))) ∧ (¬ h.1 x0 2 = 14 → (((h.1 x0 2 = 15 → (C_X7_takeTimerTicks l g h x0 (fun r98 h97 => ( (r98 = 0 ∨ r98 = 1) ∧ ( Q r98 h97))))) ∧ (¬ h.1 x0 2 = 15 → (((h.1 x0 2 = 16 → (C_X7_takeDo l g h x0 (fun r103 h102 => ( (r103 = 0 ∨ r103 = 1) ∧ ( Q r103 h102))))) ∧ (¬ h.1 x0 2 = 16 → (((h.1 x0 2 = 17 → (C_X7_takeDeed l g h x0 (fun r108 h107 => ( (r108 = 0 ∨ r108 = 1) ∧ ( Q r108 h107))))) ∧ (¬ h.1 x0 2 = 17 → (((h.1 x0 2 = 18 → (C_X7_takeDeedWindow l g h x0 (fun r113 h112 => ( (r113 = 0 ∨ r113 = 1) ∧ ( Q r113 h112))))) ∧ (¬ h.1 x0 2 = 18 → (((h.1 x0 2 = 19 → (C_X7_takeDeedVar l g h x0 (fun r118 h117 => ( (r118 = 0 ∨ r118 = 1) ∧ ( Q r118 h117))))) ∧ (¬ h.1 x0 2 = 19 → (((h.1 x0 2 = 20 → (C_X7_takeDeedNumber l g h x0 (fun r123 h122 => ( (r123 = 0 ∨ r123 = 1) ∧ ( Q r123 h122))))) ∧ (¬ h.1 x0 2 = 20 → ((Is 194 (h.2.2 x0 0) 7) ∧ ( ((¬ h.1 (h.2.2 x0 0) 3 = 44 → (C_X7_takeSign l g h x0 59 6 (fun r129 h128 => ( (r129 = 0 ∨ r129 = 1) ∧ ( Q r129 h128))))) ∧ (h.1 (h.2.2 x0 0) 3 = 44 → (C_X7_awaits l g h x0 17 (fun r133 h132 => ( (r133 = 0 ∨ r133 = 1) ∧ ( Q r133 h132)))))))))))))))))))))))))))))))))))))))))))))))))))))))))))))))))))))))) : L_X7_taken_0 l g h x0  Q := by
  obtain ⟨i1, hb⟩ := hb
  refine wp_aload_n 0 dX7_taken_0 rfl rfl ?_
  refine wp_getI dX7_taken_1 fl_X7_18 i1 ?_
  refine wp_case 0 (fun c2 => ?_) (fun c2 => ?_)
  · have hb := hb.1 c2
    refine wp_tableIn (v := 0) (tgt := 104) dX7_taken_4 c2 (by decide) (by decide) rfl (by decide) ?_
    refine wp_aload_n 0 dX7_taken_104 rfl rfl ?_
    refine wp_callV (as := []) dX7_taken_105 cb_X7_takeTop lk_X7_100 im_X7_takeTop se_X7_takeTop rfl (Nat.le_of_ble_eq_true rfl) ⟨by decide, by decide⟩ ⟨Nat.le_refl _, Nat.le_refl _, Nat.le_refl _⟩ i1 rfl (by decide) hb (fun r0 h4 hb => ?_)
    obtain ⟨r5, rfl, hb⟩ := hb
    obtain ⟨q6, hb⟩ := hb
    exact wp_zret rfl dX7_taken_108 q6 ⟨_, rfl, hb⟩
  · have hb := hb.2 c2
    refine wp_case 1 (fun c7 => ?_) (fun c7 => ?_)
    · have hb := hb.1 c7
      refine wp_tableIn (v := 1) (tgt := 109) dX7_taken_4 c7 (by decide) (by decide) rfl (by decide) ?_
      refine wp_aload_n 0 dX7_taken_109 rfl rfl ?_
      refine wp_callV (as := []) dX7_taken_110 cb_X7_takeVarName lk_X7_103 im_X7_takeVarName se_X7_takeVarName rfl (Nat.le_of_ble_eq_true rfl) ⟨by decide, by decide⟩ ⟨Nat.le_refl _, Nat.le_refl _, Nat.le_refl _⟩ i1 rfl (by decide) hb (fun r0 h9 hb => ?_)
      obtain ⟨r10, rfl, hb⟩ := hb
      obtain ⟨q11, hb⟩ := hb
      exact wp_zret rfl dX7_taken_113 q11 ⟨_, rfl, hb⟩
    · have hb := hb.2 c7
      refine wp_case 2 (fun c12 => ?_) (fun c12 => ?_)
      · have hb := hb.1 c12
        refine wp_tableIn (v := 2) (tgt := 114) dX7_taken_4 c12 (by decide) (by decide) rfl (by decide) ?_
        refine wp_aload_n 0 dX7_taken_114 rfl rfl ?_
        refine wp_callV (as := []) dX7_taken_115 cb_X7_takeVarMost lk_X7_106 im_X7_takeVarMost se_X7_takeVarMost rfl (Nat.le_of_ble_eq_true rfl) ⟨by decide, by decide⟩ ⟨Nat.le_refl _, Nat.le_refl _, Nat.le_refl _⟩ i1 rfl (by decide) hb (fun r0 h14 hb => ?_)
        obtain ⟨r15, rfl, hb⟩ := hb
        obtain ⟨q16, hb⟩ := hb
        exact wp_zret rfl dX7_taken_118 q16 ⟨_, rfl, hb⟩
      · have hb := hb.2 c12
        refine wp_case 3 (fun c17 => ?_) (fun c17 => ?_)
        · have hb := hb.1 c17
          refine wp_tableIn (v := 3) (tgt := 119) dX7_taken_4 c17 (by decide) (by decide) rfl (by decide) ?_
          refine wp_aload_n 0 dX7_taken_119 rfl rfl ?_
          refine wp_bipush (v := 59) dX7_taken_120 (by decide) ?_
          refine wp_iconst (v := 0) dX7_taken_122 (by decide) ?_
          refine wp_callV (as := [.int 59, .int 0]) dX7_taken_123 cb_X7_takeSign lk_X7_109 im_X7_takeSign se_X7_takeSign rfl (Nat.le_of_ble_eq_true rfl) ⟨by decide, by decide⟩ ⟨Nat.le_refl _, Nat.le_refl _, Nat.le_refl _⟩ i1 rfl (by decide) hb (fun r0 h19 hb => ?_)
          obtain ⟨r20, rfl, hb⟩ := hb
          obtain ⟨q21, hb⟩ := hb
          exact wp_zret rfl dX7_taken_126 q21 ⟨_, rfl, hb⟩
        · have hb := hb.2 c17
          refine wp_case 4 (fun c22 => ?_) (fun c22 => ?_)
          · have hb := hb.1 c22
            refine wp_tableIn (v := 4) (tgt := 127) dX7_taken_4 c22 (by decide) (by decide) rfl (by decide) ?_
            refine wp_aload_n 0 dX7_taken_127 rfl rfl ?_
            refine wp_callV (as := []) dX7_taken_128 cb_X7_takeWindowName lk_X7_113 im_X7_takeWindowName se_X7_takeWindowName rfl (Nat.le_of_ble_eq_true rfl) ⟨by decide, by decide⟩ ⟨Nat.le_refl _, Nat.le_refl _, Nat.le_refl _⟩ i1 rfl (by decide) hb (fun r0 h24 hb => ?_)
            obtain ⟨r25, rfl, hb⟩ := hb
            obtain ⟨q26, hb⟩ := hb
            exact wp_zret rfl dX7_taken_131 q26 ⟨_, rfl, hb⟩
          · have hb := hb.2 c22
            refine wp_case 5 (fun c27 => ?_) (fun c27 => ?_)
            · have hb := hb.1 c27
              refine wp_tableIn (v := 5) (tgt := 132) dX7_taken_4 c27 (by decide) (by decide) rfl (by decide) ?_
              refine wp_aload_n 0 dX7_taken_132 rfl rfl ?_
              refine wp_bipush (v := 123) dX7_taken_133 (by decide) ?_
              refine wp_bipush (v := 6) dX7_taken_135 (by decide) ?_
              refine wp_callV (as := [.int 123, .int 6]) dX7_taken_137 cb_X7_takeSign lk_X7_109 im_X7_takeSign se_X7_takeSign rfl (Nat.le_of_ble_eq_true rfl) ⟨by decide, by decide⟩ ⟨Nat.le_refl _, Nat.le_refl _, Nat.le_refl _⟩ i1 rfl (by decide) hb (fun r0 h29 hb => ?_)
              obtain ⟨r30, rfl, hb⟩ := hb
              obtain ⟨q31, hb⟩ := hb
              exact wp_zret rfl dX7_taken_140 q31 ⟨_, rfl, hb⟩
            · have hb := hb.2 c27
              refine wp_case 6 (fun c32 => ?_) (fun c32 => ?_)
              · have hb := hb.1 c32
                refine wp_tableIn (v := 6) (tgt := 141) dX7_taken_4 c32 (by decide) (by decide) rfl (by decide) ?_
                refine wp_aload_n 0 dX7_taken_141 rfl rfl ?_
                refine wp_callV (as := []) dX7_taken_142 cb_X7_takePart lk_X7_116 im_X7_takePart se_X7_takePart rfl (Nat.le_of_ble_eq_true rfl) ⟨by decide, by decide⟩ ⟨Nat.le_refl _, Nat.le_refl _, Nat.le_refl _⟩ i1 rfl (by decide) hb (fun r0 h34 hb => ?_)
                obtain ⟨r35, rfl, hb⟩ := hb
                obtain ⟨q36, hb⟩ := hb
                exact wp_zret rfl dX7_taken_145 q36 ⟨_, rfl, hb⟩
              · have hb := hb.2 c32
                refine wp_case 7 (fun c37 => ?_) (fun c37 => ?_)
                · have hb := hb.1 c37
                  refine wp_tableIn (v := 7) (tgt := 146) dX7_taken_4 c37 (by decide) (by decide) rfl (by decide) ?_
                  refine wp_aload_n 0 dX7_taken_146 rfl rfl ?_
                  refine wp_callV (as := []) dX7_taken_147 cb_X7_takeShowName lk_X7_119 im_X7_takeShowName se_X7_takeShowName rfl (Nat.le_of_ble_eq_true rfl) ⟨by decide, by decide⟩ ⟨Nat.le_refl _, Nat.le_refl _, Nat.le_refl _⟩ i1 rfl (by decide) hb (fun r0 h39 hb => ?_)
                  obtain ⟨r40, rfl, hb⟩ := hb
                  obtain ⟨q41, hb⟩ := hb
                  exact wp_zret rfl dX7_taken_150 q41 ⟨_, rfl, hb⟩
                · have hb := hb.2 c37
                  refine wp_case 8 (fun c42 => ?_) (fun c42 => ?_)
                  · have hb := hb.1 c42
                    refine wp_tableIn (v := 8) (tgt := 151) dX7_taken_4 c42 (by decide) (by decide) rfl (by decide) ?_
                    refine wp_aload_n 0 dX7_taken_151 rfl rfl ?_
                    refine wp_bipush (v := 59) dX7_taken_152 (by decide) ?_
                    refine wp_bipush (v := 6) dX7_taken_154 (by decide) ?_
                    refine wp_callV (as := [.int 59, .int 6]) dX7_taken_156 cb_X7_takeSign lk_X7_109 im_X7_takeSign se_X7_takeSign rfl (Nat.le_of_ble_eq_true rfl) ⟨by decide, by decide⟩ ⟨Nat.le_refl _, Nat.le_refl _, Nat.le_refl _⟩ i1 rfl (by decide) hb (fun r0 h44 hb => ?_)
                    obtain ⟨r45, rfl, hb⟩ := hb
                    obtain ⟨q46, hb⟩ := hb
                    exact wp_zret rfl dX7_taken_159 q46 ⟨_, rfl, hb⟩
                  · have hb := hb.2 c42
                    refine wp_case 9 (fun c47 => ?_) (fun c47 => ?_)
                    · have hb := hb.1 c47
                      refine wp_tableIn (v := 9) (tgt := 160) dX7_taken_4 c47 (by decide) (by decide) rfl (by decide) ?_
                      refine wp_aload_n 0 dX7_taken_160 rfl rfl ?_
                      refine wp_callV (as := []) dX7_taken_161 cb_X7_takeButtonName lk_X7_122 im_X7_takeButtonName se_X7_takeButtonName rfl (Nat.le_of_ble_eq_true rfl) ⟨by decide, by decide⟩ ⟨Nat.le_refl _, Nat.le_refl _, Nat.le_refl _⟩ i1 rfl (by decide) hb (fun r0 h49 hb => ?_)
                      obtain ⟨r50, rfl, hb⟩ := hb
                      obtain ⟨q51, hb⟩ := hb
                      exact wp_zret rfl dX7_taken_164 q51 ⟨_, rfl, hb⟩
                    · have hb := hb.2 c47
                      refine wp_case 10 (fun c52 => ?_) (fun c52 => ?_)
                      · have hb := hb.1 c52
                        refine wp_tableIn (v := 10) (tgt := 165) dX7_taken_4 c52 (by decide) (by decide) rfl (by decide) ?_
                        refine wp_aload_n 0 dX7_taken_165 rfl rfl ?_
                        obtain ⟨i53, hb⟩ := hb
                        refine wp_getR dX7_taken_166 fl_X7_12 i1 (i53.ne (by decide)) ?_
                        refine wp_ldcS (q := ("WindowHouse$Reader", 125, "if", 7)) dX7_taken_169 (by decide +kernel) rfl rfl (by decide) ?_
                        refine wp_callVN (as := [.ref 1007]) dX7_taken_171 cb_X8_says lk_X7_127 im_X8_says se_X8_says rfl (Nat.le_of_ble_eq_true rfl) ⟨by decide, by decide⟩ ⟨Nat.le_refl _, Nat.le_refl _, Nat.le_refl _⟩ i53 rfl (by decide) hb (fun r0 h55 hb => ?_)
                        obtain ⟨r56, rfl, hb⟩ := hb
                        refine wp_if_eq (tgt := 186) dX7_taken_174 (by decide) (fun c57 => ?_) (fun c57 => ?_)
                        · have hb := hb.1 c57
                          refine wp_aload_n 0 dX7_taken_186 rfl rfl ?_
                          refine wp_callV (as := []) dX7_taken_187 cb_X7_takeDo lk_X7_134 im_X7_takeDo se_X7_takeDo rfl (Nat.le_of_ble_eq_true rfl) ⟨by decide, by decide⟩ ⟨Nat.le_refl _, Nat.le_refl _, Nat.le_refl _⟩ i1 rfl (by decide) hb (fun r0 h59 hb => ?_)
                          obtain ⟨r60, rfl, hb⟩ := hb
                          obtain ⟨q61, hb⟩ := hb
                          exact wp_zret rfl dX7_taken_190 q61 ⟨_, rfl, hb⟩
                        · have hb := hb.2 c57
                          refine wp_aload_n 0 dX7_taken_177 rfl rfl ?_
                          refine wp_bipush (v := 11) dX7_taken_178 (by decide) ?_
                          refine wp_callV (as := [.int 11]) dX7_taken_180 cb_X7_awaits lk_X7_131 im_X7_awaits se_X7_awaits rfl (Nat.le_of_ble_eq_true rfl) ⟨by decide, by decide⟩ ⟨Nat.le_refl _, Nat.le_refl _, Nat.le_refl _⟩ i1 rfl (by decide) hb (fun r0 h63 hb => ?_)
                          obtain ⟨r64, rfl, hb⟩ := hb
                          refine wp_goto (tgt := 190) dX7_taken_183 (by decide) ?_
                          obtain ⟨q65, hb⟩ := hb
                          exact wp_zret rfl dX7_taken_190 q65 ⟨_, rfl, hb⟩
                      · have hb := hb.2 c52
                        refine wp_case 11 (fun c66 => ?_) (fun c66 => ?_)
                        · have hb := hb.1 c66
                          refine wp_tableIn (v := 11) (tgt := 191) dX7_taken_4 c66 (by decide) (by decide) rfl (by decide) ?_
                          refine wp_aload_n 0 dX7_taken_191 rfl rfl ?_
                          refine wp_callV (as := []) dX7_taken_192 cb_X7_takeCondName lk_X7_137 im_X7_takeCondName se_X7_takeCondName rfl (Nat.le_of_ble_eq_true rfl) ⟨by decide, by decide⟩ ⟨Nat.le_refl _, Nat.le_refl _, Nat.le_refl _⟩ i1 rfl (by decide) hb (fun r0 h68 hb => ?_)
                          obtain ⟨r69, rfl, hb⟩ := hb
                          obtain ⟨q70, hb⟩ := hb
                          exact wp_zret rfl dX7_taken_195 q70 ⟨_, rfl, hb⟩
                        · have hb := hb.2 c66
                          refine wp_case 12 (fun c71 => ?_) (fun c71 => ?_)
                          · have hb := hb.1 c71
                            refine wp_tableIn (v := 12) (tgt := 196) dX7_taken_4 c71 (by decide) (by decide) rfl (by decide) ?_
                            refine wp_aload_n 0 dX7_taken_196 rfl rfl ?_
                            refine wp_callV (as := []) dX7_taken_197 cb_X7_takeCondSign lk_X7_140 im_X7_takeCondSign se_X7_takeCondSign rfl (Nat.le_of_ble_eq_true rfl) ⟨by decide, by decide⟩ ⟨Nat.le_refl _, Nat.le_refl _, Nat.le_refl _⟩ i1 rfl (by decide) hb (fun r0 h73 hb => ?_)
                            obtain ⟨r74, rfl, hb⟩ := hb
                            obtain ⟨q75, hb⟩ := hb
                            exact wp_zret rfl dX7_taken_200 q75 ⟨_, rfl, hb⟩
                          · have hb := hb.2 c71
                            refine wp_case 13 (fun c76 => ?_) (fun c76 => ?_)
                            · have hb := hb.1 c76
                              refine wp_tableIn (v := 13) (tgt := 201) dX7_taken_4 c76 (by decide) (by decide) rfl (by decide) ?_
                              refine wp_aload_n 0 dX7_taken_201 rfl rfl ?_
                              refine wp_callV (as := []) dX7_taken_202 cb_X7_takeCondNumber lk_X7_143 im_X7_takeCondNumber se_X7_takeCondNumber rfl (Nat.le_of_ble_eq_true rfl) ⟨by decide, by decide⟩ ⟨Nat.le_refl _, Nat.le_refl _, Nat.le_refl _⟩ i1 rfl (by decide) hb (fun r0 h78 hb => ?_)
                              obtain ⟨r79, rfl, hb⟩ := hb
                              obtain ⟨q80, hb⟩ := hb
                              exact wp_zret rfl dX7_taken_205 q80 ⟨_, rfl, hb⟩
                            · have hb := hb.2 c76
                              refine wp_case 14 (fun c81 => ?_) (fun c81 => ?_)
                              · have hb := hb.1 c81
                                refine wp_tableIn (v := 14) (tgt := 206) dX7_taken_4 c81 (by decide) (by decide) rfl (by decide) ?_
                                refine wp_aload_n 0 dX7_taken_206 rfl rfl ?_
                                obtain ⟨i82, hb⟩ := hb
                                refine wp_getR dX7_taken_207 fl_X7_12 i1 (i82.ne (by decide)) ?_
                                refine wp_ldcS (q := ("WindowHouse$Reader", 146, "and", 2)) dX7_taken_210 (by decide +kernel) rfl rfl (by decide) ?_
                                refine wp_callVN (as := [.ref 1002]) dX7_taken_212 cb_X8_says lk_X7_127 im_X8_says se_X8_says rfl (Nat.le_of_ble_eq_true rfl) ⟨by decide, by decide⟩ ⟨Nat.le_refl _, Nat.le_refl _, Nat.le_refl _⟩ i82 rfl (by decide) hb (fun r0 h84 hb => ?_)
                                obtain ⟨r85, rfl, hb⟩ := hb
                                refine wp_if_eq (tgt := 227) dX7_taken_215 (by decide) (fun c86 => ?_) (fun c86 => ?_)
                                · have hb := hb.1 c86
                                  refine wp_aload_n 0 dX7_taken_227 rfl rfl ?_
                                  refine wp_callV (as := []) dX7_taken_228 cb_X7_takeDo lk_X7_134 im_X7_takeDo se_X7_takeDo rfl (Nat.le_of_ble_eq_true rfl) ⟨by decide, by decide⟩ ⟨Nat.le_refl _, Nat.le_refl _, Nat.le_refl _⟩ i1 rfl (by decide) hb (fun r0 h88 hb => ?_)
                                  obtain ⟨r89, rfl, hb⟩ := hb
                                  obtain ⟨q90, hb⟩ := hb
                                  exact wp_zret rfl dX7_taken_231 q90 ⟨_, rfl, hb⟩
                                · have hb := hb.2 c86
                                  refine wp_aload_n 0 dX7_taken_218 rfl rfl ?_
                                  refine wp_bipush (v := 11) dX7_taken_219 (by decide) ?_
                                  refine wp_callV (as := [.int 11]) dX7_taken_221 cb_X7_awaits lk_X7_131 im_X7_awaits se_X7_awaits rfl (Nat.le_of_ble_eq_true rfl) ⟨by decide, by decide⟩ ⟨Nat.le_refl _, Nat.le_refl _, Nat.le_refl _⟩ i1 rfl (by decide) hb (fun r0 h92 hb => ?_)
                                  obtain ⟨r93, rfl, hb⟩ := hb
                                  refine wp_goto (tgt := 231) dX7_taken_224 (by decide) ?_
                                  obtain ⟨q94, hb⟩ := hb
                                  exact wp_zret rfl dX7_taken_231 q94 ⟨_, rfl, hb⟩
                              · have hb := hb.2 c81
                                refine wp_case 15 (fun c95 => ?_) (fun c95 => ?_)
                                · have hb := hb.1 c95
                                  refine wp_tableIn (v := 15) (tgt := 232) dX7_taken_4 c95 (by decide) (by decide) rfl (by decide) ?_
                                  refine wp_aload_n 0 dX7_taken_232 rfl rfl ?_
                                  refine wp_callV (as := []) dX7_taken_233 cb_X7_takeTimerTicks lk_X7_148 im_X7_takeTimerTicks se_X7_takeTimerTicks rfl (Nat.le_of_ble_eq_true rfl) ⟨by decide, by decide⟩ ⟨Nat.le_refl _, Nat.le_refl _, Nat.le_refl _⟩ i1 rfl (by decide) hb (fun r0 h97 hb => ?_)
                                  obtain ⟨r98, rfl, hb⟩ := hb
                                  obtain ⟨q99, hb⟩ := hb
                                  exact wp_zret rfl dX7_taken_236 q99 ⟨_, rfl, hb⟩
                                · have hb := hb.2 c95
                                  refine wp_case 16 (fun c100 => ?_) (fun c100 => ?_)
                                  · have hb := hb.1 c100
                                    refine wp_tableIn (v := 16) (tgt := 237) dX7_taken_4 c100 (by decide) (by decide) rfl (by decide) ?_
                                    refine wp_aload_n 0 dX7_taken_237 rfl rfl ?_
                                    refine wp_callV (as := []) dX7_taken_238 cb_X7_takeDo lk_X7_134 im_X7_takeDo se_X7_takeDo rfl (Nat.le_of_ble_eq_true rfl) ⟨by decide, by decide⟩ ⟨Nat.le_refl _, Nat.le_refl _, Nat.le_refl _⟩ i1 rfl (by decide) hb (fun r0 h102 hb => ?_)
                                    obtain ⟨r103, rfl, hb⟩ := hb
                                    obtain ⟨q104, hb⟩ := hb
                                    exact wp_zret rfl dX7_taken_241 q104 ⟨_, rfl, hb⟩
                                  · have hb := hb.2 c100
                                    refine wp_case 17 (fun c105 => ?_) (fun c105 => ?_)
                                    · have hb := hb.1 c105
                                      refine wp_tableIn (v := 17) (tgt := 242) dX7_taken_4 c105 (by decide) (by decide) rfl (by decide) ?_
                                      refine wp_aload_n 0 dX7_taken_242 rfl rfl ?_
                                      refine wp_callV (as := []) dX7_taken_243 cb_X7_takeDeed lk_X7_151 im_X7_takeDeed se_X7_takeDeed rfl (Nat.le_of_ble_eq_true rfl) ⟨by decide, by decide⟩ ⟨Nat.le_refl _, Nat.le_refl _, Nat.le_refl _⟩ i1 rfl (by decide) hb (fun r0 h107 hb => ?_)
                                      obtain ⟨r108, rfl, hb⟩ := hb
                                      obtain ⟨q109, hb⟩ := hb
                                      exact wp_zret rfl dX7_taken_246 q109 ⟨_, rfl, hb⟩
                                    · have hb := hb.2 c105
                                      refine wp_case 18 (fun c110 => ?_) (fun c110 => ?_)
                                      · have hb := hb.1 c110
                                        refine wp_tableIn (v := 18) (tgt := 247) dX7_taken_4 c110 (by decide) (by decide) rfl (by decide) ?_
                                        refine wp_aload_n 0 dX7_taken_247 rfl rfl ?_
                                        refine wp_callV (as := []) dX7_taken_248 cb_X7_takeDeedWindow lk_X7_154 im_X7_takeDeedWindow se_X7_takeDeedWindow rfl (Nat.le_of_ble_eq_true rfl) ⟨by decide, by decide⟩ ⟨Nat.le_refl _, Nat.le_refl _, Nat.le_refl _⟩ i1 rfl (by decide) hb (fun r0 h112 hb => ?_)
                                        obtain ⟨r113, rfl, hb⟩ := hb
                                        obtain ⟨q114, hb⟩ := hb
                                        exact wp_zret rfl dX7_taken_251 q114 ⟨_, rfl, hb⟩
                                      · have hb := hb.2 c110
                                        refine wp_case 19 (fun c115 => ?_) (fun c115 => ?_)
                                        · have hb := hb.1 c115
                                          refine wp_tableIn (v := 19) (tgt := 252) dX7_taken_4 c115 (by decide) (by decide) rfl (by decide) ?_
                                          refine wp_aload_n 0 dX7_taken_252 rfl rfl ?_
                                          refine wp_callV (as := []) dX7_taken_253 cb_X7_takeDeedVar lk_X7_157 im_X7_takeDeedVar se_X7_takeDeedVar rfl (Nat.le_of_ble_eq_true rfl) ⟨by decide, by decide⟩ ⟨Nat.le_refl _, Nat.le_refl _, Nat.le_refl _⟩ i1 rfl (by decide) hb (fun r0 h117 hb => ?_)
                                          obtain ⟨r118, rfl, hb⟩ := hb
                                          obtain ⟨q119, hb⟩ := hb
                                          exact wp_zret rfl dX7_taken_256 q119 ⟨_, rfl, hb⟩
                                        · have hb := hb.2 c115
                                          refine wp_case 20 (fun c120 => ?_) (fun c120 => ?_)
                                          · have hb := hb.1 c120
                                            refine wp_tableIn (v := 20) (tgt := 257) dX7_taken_4 c120 (by decide) (by decide) rfl (by decide) ?_
                                            refine wp_aload_n 0 dX7_taken_257 rfl rfl ?_
                                            refine wp_callV (as := []) dX7_taken_258 cb_X7_takeDeedNumber lk_X7_160 im_X7_takeDeedNumber se_X7_takeDeedNumber rfl (Nat.le_of_ble_eq_true rfl) ⟨by decide, by decide⟩ ⟨Nat.le_refl _, Nat.le_refl _, Nat.le_refl _⟩ i1 rfl (by decide) hb (fun r0 h122 hb => ?_)
                                            obtain ⟨r123, rfl, hb⟩ := hb
                                            obtain ⟨q124, hb⟩ := hb
                                            exact wp_zret rfl dX7_taken_261 q124 ⟨_, rfl, hb⟩
                                          · have hb := hb.2 c120
                                            refine wp_tableOut (tgt := 262) dX7_taken_4 (by have zc2 := lv_neT (k := 0) (a := 0) c2 rfl; have zc7 := lv_neT (k := 1) (a := 1) c7 rfl; have zc12 := lv_neT (k := 2) (a := 2) c12 rfl; have zc17 := lv_neT (k := 3) (a := 3) c17 rfl; have zc22 := lv_neT (k := 4) (a := 4) c22 rfl; have zc27 := lv_neT (k := 5) (a := 5) c27 rfl; have zc32 := lv_neT (k := 6) (a := 6) c32 rfl; have zc37 := lv_neT (k := 7) (a := 7) c37 rfl; have zc42 := lv_neT (k := 8) (a := 8) c42 rfl; have zc47 := lv_neT (k := 9) (a := 9) c47 rfl; have zc52 := lv_neT (k := 10) (a := 10) c52 rfl; have zc66 := lv_neT (k := 11) (a := 11) c66 rfl; have zc71 := lv_neT (k := 12) (a := 12) c71 rfl; have zc76 := lv_neT (k := 13) (a := 13) c76 rfl; have zc81 := lv_neT (k := 14) (a := 14) c81 rfl; have zc95 := lv_neT (k := 15) (a := 15) c95 rfl; have zc100 := lv_neT (k := 16) (a := 16) c100 rfl; have zc105 := lv_neT (k := 17) (a := 17) c105 rfl; have zc110 := lv_neT (k := 18) (a := 18) c110 rfl; have zc115 := lv_neT (k := 19) (a := 19) c115 rfl; have zc120 := lv_neT (k := 20) (a := 20) c120 rfl; omega) (by decide) ?_
                                            refine wp_aload_n 0 dX7_taken_262 rfl rfl ?_
                                            obtain ⟨i125, hb⟩ := hb
                                            refine wp_getR dX7_taken_263 fl_X7_12 i1 (i125.ne (by decide)) ?_
                                            refine wp_getI dX7_taken_266 fl_X7_80 i125 ?_
                                            refine wp_bipush (v := 44) dX7_taken_269 (by decide) ?_
                                            refine wp_icmp_ne (tgt := 283) dX7_taken_271 (by decide) (fun c126 => ?_) (fun c126 => ?_)
                                            · have hb := hb.1 c126
                                              refine wp_aload_n 0 dX7_taken_283 rfl rfl ?_
                                              refine wp_bipush (v := 59) dX7_taken_284 (by decide) ?_
                                              refine wp_bipush (v := 6) dX7_taken_286 (by decide) ?_
                                              refine wp_callV (as := [.int 59, .int 6]) dX7_taken_288 cb_X7_takeSign lk_X7_109 im_X7_takeSign se_X7_takeSign rfl (Nat.le_of_ble_eq_true rfl) ⟨by decide, by decide⟩ ⟨Nat.le_refl _, Nat.le_refl _, Nat.le_refl _⟩ i1 rfl (by decide) hb (fun r0 h128 hb => ?_)
                                              obtain ⟨r129, rfl, hb⟩ := hb
                                              obtain ⟨q130, hb⟩ := hb
                                              exact wp_zret rfl dX7_taken_291 q130 ⟨_, rfl, hb⟩
                                            · have hb := hb.2 c126
                                              refine wp_aload_n 0 dX7_taken_274 rfl rfl ?_
                                              refine wp_bipush (v := 17) dX7_taken_275 (by decide) ?_
                                              refine wp_callV (as := [.int 17]) dX7_taken_277 cb_X7_awaits lk_X7_131 im_X7_awaits se_X7_awaits rfl (Nat.le_of_ble_eq_true rfl) ⟨by decide, by decide⟩ ⟨Nat.le_refl _, Nat.le_refl _, Nat.le_refl _⟩ i1 rfl (by decide) hb (fun r0 h132 hb => ?_)
                                              obtain ⟨r133, rfl, hb⟩ := hb
                                              refine wp_goto (tgt := 291) dX7_taken_280 (by decide) ?_
                                              obtain ⟨q134, hb⟩ := hb
                                              exact wp_zret rfl dX7_taken_291 q134 ⟨_, rfl, hb⟩
theorem c_X7_taken {l : Launch} {g : AG} {h : AH} {x0 : Nat}  {Q : Int32 → AH → Prop} (hb : L_X7_taken_0 l g h x0  Q) : C_X7_taken l g h x0  Q := ax_met rfl rfl (Nat.le_of_ble_eq_true rfl) hb
def C_X7_reads (l : Launch) (g : AG) (h : AH) (x0 : Nat) (x1 : Nat) (x2 : Int32) (x3 : Nat)  (Q : Int32 → AH → Prop) : Prop := Ct l g mX7_reads 8 202 194 194 h [.ref x0, .ref x1, .int x2, .ref x3] (ax_QI Q)
def L_X7_reads_0 (l : Launch) (g : AG) (h : AH) (x0 : Nat) (x1 : Nat) (x2 : Int32) (x3 : Nat)  (Q : Int32 → AH → Prop) : Prop := Wp l g mX7_reads 8 202 194 194 194 0 [(0, .ref x0), (1, .ref x1), (2, .int x2), (3, .ref x3)] [] h (FM g 194 194 (ax_QI Q))
def L_X7_reads_49 (l : Launch) (g : AG) (h : AH) (x0 : Nat) (x4 : Int32)  (Q : Int32 → AH → Prop) : Prop := Wp l g mX7_reads 8 202 194 194 194 49 [(0, .ref x0), (4, .int x4)] [] h (FM g 194 194 (ax_QI Q))
set_option maxRecDepth 100000 in
set_option maxHeartbeats 4000000 in
theorem s_X7_reads_0 {l : Launch} {g : AG} {h : AH} {x0 : Nat} {x1 : Nat} {x2 : Int32} {x3 : Nat}  {Q : Int32 → AH → Prop} (hb : (Is 194 x0 6) ∧ ( (Is 194 x3 0) ∧ ( ∀ h3 : AH, h3 = ax_setR h x0 1 x3 → ( (Is 194 (h3.2.2 x0 1) 0) ∧ ( C_X0_clear l g h3 (h3.2.2 x0 1) (fun h7 => ( ∀ h8 : AH, h8 = ax_setI h7 x0 2 0 → ( ∀ h10 : AH, h10 = ax_setI h8 x0 3 0 → ( ∀ h12 : AH, h12 = ax_setI h10 x0 4 0 → ( ∀ h14 : AH, h14 = ax_setI h12 x0 7 0 → ( ∀ h16 : AH, h16 = ax_setI h14 x0 11 0 → ( (Is 194 (h16.2.2 x0 0) 7) ∧ ( (Is 194 x1 20) ∧ ( C_X8_start l g h16 (h16.2.2 x0 0) x1 x2 (fun h21 => ( L_X7_reads_49 l g h21 x0 0  Q)))))))))))))))) : L_X7_reads_0 l g h x0 x1 x2 x3  Q := by
  obtain ⟨i1, hb⟩ := hb
  refine wp_aload_n 0 dX7_reads_0 rfl rfl ?_
  obtain ⟨i2, hb⟩ := hb
  refine wp_aload_n 3 dX7_reads_1 rfl rfl ?_
  refine wp_putR dX7_reads_2 fl_X7_64 (Or.inl rfl) i1 (i2.ne (by decide)) ?_
  refine wp_topH (fun h3 e4 => ?_)
  have hb := hb h3 e4
  refine wp_aload_n 0 dX7_reads_5 rfl rfl ?_
  obtain ⟨i5, hb⟩ := hb
  refine wp_getR dX7_reads_6 fl_X7_64 i1 (i5.ne (by decide)) ?_
  refine wp_callVN (as := []) dX7_reads_9 cb_X0_clear lk_X7_68 im_X0_clear se_X0_clear rfl (Nat.le_of_ble_eq_true rfl) ⟨by decide, by decide⟩ ⟨Nat.le_refl _, Nat.le_refl _, Nat.le_refl _⟩ i5 rfl (by decide) hb (fun r0 h7 hb => ?_)
  obtain ⟨rfl, hb⟩ := hb
  refine wp_aload_n 0 dX7_reads_12 rfl rfl ?_
  refine wp_iconst (v := 0) dX7_reads_13 (by decide) ?_
  refine wp_putI dX7_reads_14 fl_X7_18 (Or.inl rfl) i1 ?_
  refine wp_topH (fun h8 e9 => ?_)
  have hb := hb h8 e9
  refine wp_aload_n 0 dX7_reads_17 rfl rfl ?_
  refine wp_iconst (v := 0) dX7_reads_18 (by decide) ?_
  refine wp_putI dX7_reads_19 fl_X7_22 (Or.inl rfl) i1 ?_
  refine wp_topH (fun h10 e11 => ?_)
  have hb := hb h10 e11
  refine wp_aload_n 0 dX7_reads_22 rfl rfl ?_
  refine wp_iconst (v := 0) dX7_reads_23 (by decide) ?_
  refine wp_putI dX7_reads_24 fl_X7_25 (Or.inl rfl) i1 ?_
  refine wp_topH (fun h12 e13 => ?_)
  have hb := hb h12 e13
  refine wp_aload_n 0 dX7_reads_27 rfl rfl ?_
  refine wp_iconst (v := 0) dX7_reads_28 (by decide) ?_
  refine wp_putI dX7_reads_29 fl_X7_36 (Or.inl rfl) i1 ?_
  refine wp_topH (fun h14 e15 => ?_)
  have hb := hb h14 e15
  refine wp_aload_n 0 dX7_reads_32 rfl rfl ?_
  refine wp_iconst (v := 0) dX7_reads_33 (by decide) ?_
  refine wp_putI dX7_reads_34 fl_X7_48 (Or.inl rfl) i1 ?_
  refine wp_topH (fun h16 e17 => ?_)
  have hb := hb h16 e17
  refine wp_aload_n 0 dX7_reads_37 rfl rfl ?_
  obtain ⟨i18, hb⟩ := hb
  refine wp_getR dX7_reads_38 fl_X7_12 i1 (i18.ne (by decide)) ?_
  obtain ⟨i19, hb⟩ := hb
  refine wp_aload_n 1 dX7_reads_41 rfl rfl ?_
  refine wp_iload_n 2 dX7_reads_42 rfl rfl ?_
  refine wp_callVN (as := [.ref x1, .int x2]) dX7_reads_43 cb_X8_start lk_X7_73 im_X8_start se_X8_start rfl (Nat.le_of_ble_eq_true rfl) ⟨by decide, by decide⟩ ⟨Nat.le_refl _, Nat.le_refl _, Nat.le_refl _⟩ i18 rfl (by decide) hb (fun r0 h21 hb => ?_)
  obtain ⟨rfl, hb⟩ := hb
  refine wp_iconst (v := 0) dX7_reads_46 (by decide) ?_
  refine wp_istore (lv2 := [(4, .int 0), (0, .ref x0), (1, .ref x1), (2, .int x2), (3, .ref x3)]) dX7_reads_47 (by decide) rfl ?_
  exact wp_sub [1, 0] rfl hb
set_option maxRecDepth 100000 in
set_option maxHeartbeats 4000000 in
theorem s_X7_reads_49 {l : Launch} {g : AG} {h : AH} {x0 : Nat} {x4 : Int32}  {Q : Int32 → AH → Prop} (hb : ((800 < x4 → (Q 0 h)) ∧ (¬ (800 < x4) → ((Is 194 x0 6) ∧ ( (Is 194 (h.2.2 x0 0) 7) ∧ ( C_X8_goOn l g h (h.2.2 x0 0) (fun h26 => ( (Is 194 (h26.2.2 x0 0) 7) ∧ ( ((¬ h26.1 (h26.2.2 x0 0) 3 = 0 → (C_X7_taken l g h26 x0 (fun r31 h30 => ( ((¬ r31 = 0 → (∀ v33 : Int32, v33 = x4 + (1) → ( L_X7_reads_49 l g h30 x0 v33  Q))) ∧ (r31 = 0 → (Q 0 h30))))))) ∧ (h26.1 (h26.2.2 x0 0) 3 = 0 → (((¬ h26.1 x0 2 = 0 → (C_X7_faulty l g h26 x0 1 (fun r38 h37 => ( (r38 = 0 ∨ r38 = 1) ∧ ( Q r38 h37))))) ∧ (h26.1 x0 2 = 0 → ((Is 194 (h26.2.2 x0 1) 0) ∧ ( ((h26.1 (h26.2.2 x0 1) 0 ≤ 0 → (C_X7_faulty l g h26 x0 1 (fun r44 h43 => ( (r44 = 0 ∨ r44 = 1) ∧ ( Q r44 h43))))) ∧ (¬ (h26.1 (h26.2.2 x0 1) 0 ≤ 0) → (C_X7_findOpened l g h26 x0 (fun r48 h47 => ( (r48 = 0 ∨ r48 = 1) ∧ ( Q r48 h47)))))))))))))))))))))) : L_X7_reads_49 l g h x0 x4  Q := by
  refine wp_iload 1 dX7_reads_49 rfl ?_
  refine wp_sipush (v := 800) dX7_reads_51 (by decide) ?_
  refine wp_icmp_gt (tgt := 119) dX7_reads_54 (by decide) (fun c22 => ?_) (fun c22 => ?_)
  · have hb := hb.1 c22
    refine wp_iconst (v := 0) dX7_reads_119 (by decide) ?_
    exact wp_zret rfl dX7_reads_120 (Or.inl rfl) ⟨_, rfl, hb⟩
  · have hb := hb.2 c22
    obtain ⟨i23, hb⟩ := hb
    refine wp_aload_n 0 dX7_reads_57 rfl rfl ?_
    obtain ⟨i24, hb⟩ := hb
    refine wp_getR dX7_reads_58 fl_X7_12 i23 (i24.ne (by decide)) ?_
    refine wp_callVN (as := []) dX7_reads_61 cb_X8_goOn lk_X7_77 im_X8_goOn se_X8_goOn rfl (Nat.le_of_ble_eq_true rfl) ⟨by decide, by decide⟩ ⟨Nat.le_refl _, Nat.le_refl _, Nat.le_refl _⟩ i24 rfl (by decide) hb (fun r0 h26 hb => ?_)
    obtain ⟨rfl, hb⟩ := hb
    refine wp_aload_n 0 dX7_reads_64 rfl rfl ?_
    obtain ⟨i27, hb⟩ := hb
    refine wp_getR dX7_reads_65 fl_X7_12 i23 (i27.ne (by decide)) ?_
    refine wp_getI dX7_reads_68 fl_X7_80 i27 ?_
    refine wp_if_ne (tgt := 104) dX7_reads_71 (by decide) (fun c28 => ?_) (fun c28 => ?_)
    · have hb := hb.1 c28
      refine wp_aload_n 0 dX7_reads_104 rfl rfl ?_
      refine wp_callV (as := []) dX7_reads_105 cb_X7_taken lk_X7_94 im_X7_taken se_X7_taken rfl (Nat.le_of_ble_eq_true rfl) ⟨by decide, by decide⟩ ⟨Nat.le_refl _, Nat.le_refl _, Nat.le_refl _⟩ i23 rfl (by decide) hb (fun r0 h30 hb => ?_)
      obtain ⟨r31, rfl, hb⟩ := hb
      refine wp_if_ne (tgt := 113) dX7_reads_108 (by decide) (fun c32 => ?_) (fun c32 => ?_)
      · have hb := hb.1 c32
        obtain ⟨v33, e34⟩ : ∃ y : Int32, y = x4 + (1) := ⟨_, rfl⟩
        have hb := hb v33 e34
        refine wp_iinc (v := v33) (lv2 := [(4, .int v33), (0, .ref x0)]) 1 dX7_reads_113 rfl (by rw [e34]; rfl) (by decide) rfl ?_
        refine wp_goto (tgt := 49) dX7_reads_116 (by decide) ?_
        exact wp_sub [1, 0] rfl hb
      · have hb := hb.2 c32
        refine wp_iconst (v := 0) dX7_reads_111 (by decide) ?_
        exact wp_zret rfl dX7_reads_112 (Or.inl rfl) ⟨_, rfl, hb⟩
    · have hb := hb.2 c28
      refine wp_aload_n 0 dX7_reads_74 rfl rfl ?_
      refine wp_getI dX7_reads_75 fl_X7_18 i23 ?_
      refine wp_if_ne (tgt := 98) dX7_reads_78 (by decide) (fun c35 => ?_) (fun c35 => ?_)
      · have hb := hb.1 c35
        refine wp_aload_n 0 dX7_reads_98 rfl rfl ?_
        refine wp_iconst (v := 1) dX7_reads_99 (by decide) ?_
        refine wp_callV (as := [.int 1]) dX7_reads_100 cb_X7_faulty lk_X7_90 im_X7_faulty se_X7_faulty rfl (Nat.le_of_ble_eq_true rfl) ⟨by decide, by decide⟩ ⟨Nat.le_refl _, Nat.le_refl _, Nat.le_refl _⟩ i23 rfl (by decide) hb (fun r0 h37 hb => ?_)
        obtain ⟨r38, rfl, hb⟩ := hb
        obtain ⟨q39, hb⟩ := hb
        exact wp_zret rfl dX7_reads_103 q39 ⟨_, rfl, hb⟩
      · have hb := hb.2 c35
        refine wp_aload_n 0 dX7_reads_81 rfl rfl ?_
        obtain ⟨i40, hb⟩ := hb
        refine wp_getR dX7_reads_82 fl_X7_64 i23 (i40.ne (by decide)) ?_
        refine wp_getI dX7_reads_85 fl_X7_83 i40 ?_
        refine wp_if_le (tgt := 98) dX7_reads_88 (by decide) (fun c41 => ?_) (fun c41 => ?_)
        · have hb := hb.1 c41
          refine wp_aload_n 0 dX7_reads_98 rfl rfl ?_
          refine wp_iconst (v := 1) dX7_reads_99 (by decide) ?_
          refine wp_callV (as := [.int 1]) dX7_reads_100 cb_X7_faulty lk_X7_90 im_X7_faulty se_X7_faulty rfl (Nat.le_of_ble_eq_true rfl) ⟨by decide, by decide⟩ ⟨Nat.le_refl _, Nat.le_refl _, Nat.le_refl _⟩ i23 rfl (by decide) hb (fun r0 h43 hb => ?_)
          obtain ⟨r44, rfl, hb⟩ := hb
          obtain ⟨q45, hb⟩ := hb
          exact wp_zret rfl dX7_reads_103 q45 ⟨_, rfl, hb⟩
        · have hb := hb.2 c41
          refine wp_aload_n 0 dX7_reads_91 rfl rfl ?_
          refine wp_callV (as := []) dX7_reads_92 cb_X7_findOpened lk_X7_86 im_X7_findOpened se_X7_findOpened rfl (Nat.le_of_ble_eq_true rfl) ⟨by decide, by decide⟩ ⟨Nat.le_refl _, Nat.le_refl _, Nat.le_refl _⟩ i23 rfl (by decide) hb (fun r0 h47 hb => ?_)
          obtain ⟨r48, rfl, hb⟩ := hb
          refine wp_goto (tgt := 103) dX7_reads_95 (by decide) ?_
          obtain ⟨q49, hb⟩ := hb
          exact wp_zret rfl dX7_reads_103 q49 ⟨_, rfl, hb⟩
theorem c_X7_reads {l : Launch} {g : AG} {h : AH} {x0 : Nat} {x1 : Nat} {x2 : Int32} {x3 : Nat}  {Q : Int32 → AH → Prop} (hb : L_X7_reads_0 l g h x0 x1 x2 x3  Q) : C_X7_reads l g h x0 x1 x2 x3  Q := ax_met rfl rfl (Nat.le_of_ble_eq_true rfl) hb
def C_X3_packed (l : Launch) (g : AG) (h : AH) (x0 : Int64) (x2 : Int32) (x3 : Int64)  (Q : Int64 → AH → Prop) : Prop := Ct l g mX3_packed 0 0 194 194 h [.long x0, .int x2, .long x3] (ax_QL Q)
def L_X3_packed_0 (l : Launch) (g : AG) (h : AH) (x0 : Int64) (x2 : Int32) (x3 : Int64)  (Q : Int64 → AH → Prop) : Prop := Wp l g mX3_packed 0 0 194 194 194 0 [(0, .long x0), (2, .int x2), (3, .long x3)] [] h (FM g 194 194 (ax_QL Q))
set_option maxRecDepth 100000 in
set_option maxHeartbeats 4000000 in
theorem s_X3_packed_0 {l : Launch} {g : AG} {h : AH} {x0 : Int64} {x2 : Int32} {x3 : Int64}  {Q : Int64 → AH → Prop} (hb : ∀ v1 : Int64, v1 = (((jlshl x0 27) ||| (jlshl x2.toInt64 24)) ||| (x3 &&& 16777215)) → ( Q v1 h)) : L_X3_packed_0 l g h x0 x2 x3  Q := by
  refine wp_lload_n 0 dX3_packed_0 rfl rfl ?_
  refine wp_bipush (v := 27) dX3_packed_1 (by decide) ?_
  refine wp_lshl dX3_packed_3 ?_
  refine wp_iload_n 1 dX3_packed_4 rfl rfl ?_
  refine wp_i2l dX3_packed_5 ?_
  refine wp_bipush (v := 24) dX3_packed_6 (by decide) ?_
  refine wp_lshl dX3_packed_8 ?_
  refine wp_lor dX3_packed_9 ?_
  refine wp_lload_n 2 dX3_packed_10 rfl rfl ?_
  refine wp_ldc2 (v := 16777215) dX3_packed_11 lk_X3_11 ?_
  refine wp_land dX3_packed_14 ?_
  refine wp_lor dX3_packed_15 ?_
  refine wp_topl (fun v1 e2 => ?_)
  have hb := hb v1 e2
  exact wp_lret rfl dX3_packed_16 ⟨_, rfl, hb⟩
theorem c_X3_packed {l : Launch} {g : AG} {h : AH} {x0 : Int64} {x2 : Int32} {x3 : Int64}  {Q : Int64 → AH → Prop} (hb : L_X3_packed_0 l g h x0 x2 x3  Q) : C_X3_packed l g h x0 x2 x3  Q := ax_met rfl rfl (Nat.le_of_ble_eq_true rfl) hb
def C_X3_alone (l : Launch) (g : AG) (h : AH) (x0 : Int32) (x1 : Int64)  (Q : Int64 → AH → Prop) : Prop := Ct l g mX3_alone 1 24 194 194 h [.int x0, .long x1] (ax_QL Q)
def L_X3_alone_0 (l : Launch) (g : AG) (h : AH) (x0 : Int32) (x1 : Int64)  (Q : Int64 → AH → Prop) : Prop := Wp l g mX3_alone 1 24 194 194 194 0 [(0, .int x0), (1, .long x1)] [] h (FM g 194 194 (ax_QL Q))
set_option maxRecDepth 100000 in
set_option maxHeartbeats 4000000 in
theorem s_X3_alone_0 {l : Launch} {g : AG} {h : AH} {x0 : Int32} {x1 : Int64}  {Q : Int64 → AH → Prop} (hb : C_X3_packed l g h (jlshl x0.toInt64 4) 1 x1 (fun r3 h2 => ( Q r3 h2))) : L_X3_alone_0 l g h x0 x1  Q := by
  refine wp_iload_n 0 dX3_alone_0 rfl rfl ?_
  refine wp_i2l dX3_alone_1 ?_
  refine wp_iconst (v := 4) dX3_alone_2 (by decide) ?_
  refine wp_lshl dX3_alone_3 ?_
  refine wp_iconst (v := 1) dX3_alone_4 (by decide) ?_
  refine wp_lload_n 1 dX3_alone_5 rfl rfl ?_
  refine wp_callS (as := [.long (jlshl x0.toInt64 4), .int 1, .long x1]) dX3_alone_6 cb_X3_packed lk_X3_13 st_X3_packed rfl (Nat.le_of_ble_eq_true rfl) ⟨by decide, by decide⟩ ⟨Nat.le_refl _, Nat.le_refl _, Nat.le_refl _⟩ hb (fun r0 h2 hb => ?_)
  obtain ⟨r3, rfl, hb⟩ := hb
  exact wp_lret rfl dX3_alone_9 ⟨_, rfl, hb⟩
theorem c_X3_alone {l : Launch} {g : AG} {h : AH} {x0 : Int32} {x1 : Int64}  {Q : Int64 → AH → Prop} (hb : L_X3_alone_0 l g h x0 x1  Q) : C_X3_alone l g h x0 x1  Q := ax_met rfl rfl (Nat.le_of_ble_eq_true rfl) hb
def C_X0_beginning (l : Launch) (g : AG) (h : AH) (x0 : Nat)  (Q : Int64 → AH → Prop) : Prop := Ct l g mX0_beginning 2 46 194 194 h [.ref x0] (ax_QL Q)
def L_X0_beginning_0 (l : Launch) (g : AG) (h : AH) (x0 : Nat)  (Q : Int64 → AH → Prop) : Prop := Wp l g mX0_beginning 2 46 194 194 194 0 [(0, .ref x0)] [] h (FM g 194 194 (ax_QL Q))
set_option maxRecDepth 100000 in
set_option maxHeartbeats 4000000 in
theorem s_X0_beginning_0 {l : Launch} {g : AG} {h : AH} {x0 : Nat}  {Q : Int64 → AH → Prop} (hb : C_X3_alone l g h 0 0 (fun r3 h2 => ( Q r3 h2))) : L_X0_beginning_0 l g h x0  Q := by
  refine wp_iconst (v := 0) dX0_beginning_0 (by decide) ?_
  refine wp_lconst (v := 0) dX0_beginning_1 (by decide) ?_
  refine wp_callSN (as := [.int 0, .long 0]) dX0_beginning_2 cb_X3_alone lk_X0_98 st_X3_alone rfl (Nat.le_of_ble_eq_true rfl) ⟨by decide, by decide⟩ ⟨Nat.le_refl _, Nat.le_refl _, Nat.le_refl _⟩ hb (fun r0 h2 hb => ?_)
  obtain ⟨r3, rfl, hb⟩ := hb
  exact wp_lret rfl dX0_beginning_5 ⟨_, rfl, hb⟩
theorem c_X0_beginning {l : Launch} {g : AG} {h : AH} {x0 : Nat}  {Q : Int64 → AH → Prop} (hb : L_X0_beginning_0 l g h x0  Q) : C_X0_beginning l g h x0  Q := ax_met rfl rfl (Nat.le_of_ble_eq_true rfl) hb
def C_X1_drop (l : Launch) (g : AG) (h : AH) (x0 : Nat)  (Q : AH → Prop) : Prop := Ct l g mX1_drop 0 0 194 194 h [.ref x0] (ax_QV Q)
def L_X1_drop_0 (l : Launch) (g : AG) (h : AH) (x0 : Nat)  (Q : AH → Prop) : Prop := Wp l g mX1_drop 0 0 194 194 194 0 [(0, .ref x0)] [] h (FM g 194 194 (ax_QV Q))
set_option maxRecDepth 100000 in
set_option maxHeartbeats 4000000 in
theorem s_X1_drop_0 {l : Launch} {g : AG} {h : AH} {x0 : Nat}  {Q : AH → Prop} (hb : (Is 194 x0 1) ∧ ( ∀ h2 : AH, h2 = ax_setI h x0 0 (-1) → ( ∀ h4 : AH, h4 = ax_setI h2 x0 5 0 → ( Q h4)))) : L_X1_drop_0 l g h x0  Q := by
  obtain ⟨i1, hb⟩ := hb
  refine wp_aload_n 0 dX1_drop_0 rfl rfl ?_
  refine wp_iconst (v := (-1)) dX1_drop_1 (by decide) ?_
  refine wp_putI dX1_drop_2 fl_X1_9 (Or.inl rfl) i1 ?_
  refine wp_topH (fun h2 e3 => ?_)
  have hb := hb h2 e3
  refine wp_aload_n 0 dX1_drop_5 rfl rfl ?_
  refine wp_iconst (v := 0) dX1_drop_6 (by decide) ?_
  refine wp_putI dX1_drop_7 fl_X1_29 (Or.inl rfl) i1 ?_
  refine wp_topH (fun h4 e5 => ?_)
  have hb := hb h4 e5
  exact wp_vret rfl dX1_drop_10 ⟨rfl, hb⟩
theorem c_X1_drop {l : Launch} {g : AG} {h : AH} {x0 : Nat}  {Q : AH → Prop} (hb : L_X1_drop_0 l g h x0  Q) : C_X1_drop l g h x0  Q := ax_met rfl rfl (Nat.le_of_ble_eq_true rfl) hb
def C_X9_granted (l : Launch) (g : AG) (h : AH) (x0 : Nat) (x1 : Int32)  (Q : Int32 → AH → Prop) : Prop := Ct l g mX9_granted 0 0 194 194 h [.ref x0, .int x1] (ax_QI Q)
def L_X9_granted_0 (l : Launch) (g : AG) (h : AH) (x0 : Nat) (x1 : Int32)  (Q : Int32 → AH → Prop) : Prop := Wp l g mX9_granted 0 0 194 194 194 0 [(0, .ref x0), (1, .int x1)] [] h (FM g 194 194 (ax_QI Q))
set_option maxRecDepth 100000 in
set_option maxHeartbeats 4000000 in
theorem s_X9_granted_0 {l : Launch} {g : AG} {h : AH} {x0 : Nat} {x1 : Int32}  {Q : Int32 → AH → Prop} (hb : (Is 194 x0 8) ∧ ( ∀ h2 : AH, h2 = ax_setI h x0 12 0 → ( Q x1 h2))) : L_X9_granted_0 l g h x0 x1  Q := by
  obtain ⟨i1, hb⟩ := hb
  refine wp_aload_n 0 dX9_granted_0 rfl rfl ?_
  refine wp_iconst (v := 0) dX9_granted_1 (by decide) ?_
  refine wp_putI dX9_granted_2 fl_X9_69 (Or.inl rfl) i1 ?_
  refine wp_topH (fun h2 e3 => ?_)
  have hb := hb h2 e3
  refine wp_iload_n 1 dX9_granted_5 rfl rfl ?_
  exact wp_iret rfl dX9_granted_6 ⟨_, rfl, hb⟩
theorem c_X9_granted {l : Launch} {g : AG} {h : AH} {x0 : Nat} {x1 : Int32}  {Q : Int32 → AH → Prop} (hb : L_X9_granted_0 l g h x0 x1  Q) : C_X9_granted l g h x0 x1  Q := ax_met rfl rfl (Nat.le_of_ble_eq_true rfl) hb
