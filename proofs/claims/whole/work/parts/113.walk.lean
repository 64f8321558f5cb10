def C_X7_takeDeedWindow (l : Launch) (g : AG) (h : AH) (x0 : Nat)  (Q : Int32 → AH → Prop) : Prop := Ct l g mX7_takeDeedWindow 1 25 194 194 h [.ref x0] (ax_QI Q)
def L_X7_takeDeedWindow_0 (l : Launch) (g : AG) (h : AH) (x0 : Nat)  (Q : Int32 → AH → Prop) : Prop := Wp l g mX7_takeDeedWindow 1 25 194 194 194 0 [(0, .ref x0)] [] h (FM g 194 194 (ax_QI Q))
set_option maxRecDepth 100000 in
set_option maxHeartbeats 4000000 in
theorem s_X7_takeDeedWindow_0 {l : Launch} {g : AG} {h : AH} {x0 : Nat}  {Q : Int32 → AH → Prop} (hb : (Is 194 x0 6) ∧ ( (Is 194 (h.2.2 x0 0) 7) ∧ ( ((h.1 (h.2.2 x0 0) 3 = 1 → ((Is 194 (h.2.2 x0 12) 20) ∧ ( (Is 194 (h.2.2 x0 1) 0) ∧ ( (Is 194 (h.2.2 (h.2.2 x0 1) 18) 4) ∧ ( C_X5_add l g h (h.2.2 (h.2.2 x0 1) 18) (h.1 x0 10) (h.1 x0 9) 0 0 (fun r9 h8 => ( (vp_in (h.1 x0 11) (ax_s (h.2.2 x0 12)).2) ∧ ( ∀ h11 : AH, h11 = ax_setI h8 (h.2.2 x0 12) (h.1 x0 11).toNatClampNeg r9 → ( (Is 194 (h11.2.2 x0 13) 21) ∧ ( (Is 194 (h11.2.2 x0 0) 7) ∧ ( (vp_in (h11.1 x0 11) (ax_s (h11.2.2 x0 13)).2) ∧ ( ∀ h16 : AH, h16 = ax_setL h11 (h11.2.2 x0 13) (h11.1 x0 11).toNatClampNeg (h11.2.1 (h11.2.2 x0 0) 5) → ( (Is 194 (h16.2.2 x0 14) 20) ∧ ( (Is 194 (h16.2.2 x0 0) 7) ∧ ( (vp_in (h16.1 x0 11) (ax_s (h16.2.2 x0 14)).2) ∧ ( ∀ h21 : AH, h21 = ax_setI h16 (h16.2.2 x0 14) (h16.1 x0 11).toNatClampNeg (h16.1 (h16.2.2 x0 0) 4) → ( ∀ h23 : AH, h23 = ax_setI h21 x0 11 ((h21.1 x0 11) + 1) → ( C_X7_awaits l g h23 x0 21 (fun r27 h26 => ( (r27 = 0 ∨ r27 = 1) ∧ ( Q r27 h26))))))))))))))))))))) ∧ (¬ (h.1 (h.2.2 x0 0) 3 = 1) → (C_X7_faulty l g h x0 1 (fun r31 h30 => ( (r31 = 0 ∨ r31 = 1) ∧ ( Q r31 h30))))))))) : L_X7_takeDeedWindow_0 l g h x0  Q := by
  obtain ⟨i1, hb⟩ := hb
  refine wp_aload_n 0 dX7_takeDeedWindow_0 rfl rfl ?_
  obtain ⟨i2, hb⟩ := hb
  refine wp_getR dX7_takeDeedWindow_1 fl_X7_12 i1 (i2.ne (by decide)) ?_
  refine wp_getI dX7_takeDeedWindow_4 fl_X7_80 i2 ?_
  refine wp_iconst (v := 1) dX7_takeDeedWindow_7 (by decide) ?_
  refine wp_icmp_eq (tgt := 17) dX7_takeDeedWindow_8 (by decide) (fun c3 => ?_) (fun c3 => ?_)
  · have hb := hb.1 c3
    refine wp_aload_n 0 dX7_takeDeedWindow_17 rfl rfl ?_
    obtain ⟨i4, hb⟩ := hb
    refine wp_getR dX7_takeDeedWindow_18 fl_X7_53 i1 (i4.ne (by decide)) ?_
    refine wp_aload_n 0 dX7_takeDeedWindow_21 rfl rfl ?_
    refine wp_getI dX7_takeDeedWindow_22 fl_X7_48 i1 ?_
    refine wp_aload_n 0 dX7_takeDeedWindow_25 rfl rfl ?_
    obtain ⟨i5, hb⟩ := hb
    refine wp_getR dX7_takeDeedWindow_26 fl_X7_64 i1 (i5.ne (by decide)) ?_
    obtain ⟨i6, hb⟩ := hb
    refine wp_getR dX7_takeDeedWindow_29 fl_X7_263 i5 (i6.ne (by decide)) ?_
    refine wp_aload_n 0 dX7_takeDeedWindow_32 rfl rfl ?_
    refine wp_getI dX7_takeDeedWindow_33 fl_X7_45 i1 ?_
    refine wp_aload_n 0 dX7_takeDeedWindow_36 rfl rfl ?_
    refine wp_getI dX7_takeDeedWindow_37 fl_X7_42 i1 ?_
    refine wp_iconst (v := 0) dX7_takeDeedWindow_40 (by decide) ?_
    refine wp_iconst (v := 0) dX7_takeDeedWindow_41 (by decide) ?_
    refine wp_callVN (as := [.int (h.1 x0 10), .int (h.1 x0 9), .int 0, .int 0]) dX7_takeDeedWindow_42 cb_X5_add lk_X7_268 im_X5_add se_X5_add rfl (Nat.le_of_ble_eq_true rfl) ⟨by decide, by decide⟩ ⟨Nat.le_refl _, Nat.le_refl _, Nat.le_refl _⟩ i6 rfl (by decide) hb (fun r0 h8 hb => ?_)
    obtain ⟨r9, rfl, hb⟩ := hb
    obtain ⟨b10, hb⟩ := hb
    refine wp_iastore dX7_takeDeedWindow_45 i4 b10 ?_
    refine wp_topH (fun h11 e12 => ?_)
    have hb := hb h11 e12
    refine wp_aload_n 0 dX7_takeDeedWindow_46 rfl rfl ?_
    obtain ⟨i13, hb⟩ := hb
    refine wp_getR dX7_takeDeedWindow_47 fl_X7_57 i1 (i13.ne (by decide)) ?_
    refine wp_aload_n 0 dX7_takeDeedWindow_50 rfl rfl ?_
    refine wp_getI dX7_takeDeedWindow_51 fl_X7_48 i1 ?_
    refine wp_aload_n 0 dX7_takeDeedWindow_54 rfl rfl ?_
    obtain ⟨i14, hb⟩ := hb
    refine wp_getR dX7_takeDeedWindow_55 fl_X7_12 i1 (i14.ne (by decide)) ?_
    refine wp_getL dX7_takeDeedWindow_58 fl_X7_168 i14 ?_
    obtain ⟨b15, hb⟩ := hb
    refine wp_lastore dX7_takeDeedWindow_61 i13 b15 ?_
    refine wp_topH (fun h16 e17 => ?_)
    have hb := hb h16 e17
    refine wp_aload_n 0 dX7_takeDeedWindow_62 rfl rfl ?_
    obtain ⟨i18, hb⟩ := hb
    refine wp_getR dX7_takeDeedWindow_63 fl_X7_61 i1 (i18.ne (by decide)) ?_
    refine wp_aload_n 0 dX7_takeDeedWindow_66 rfl rfl ?_
    refine wp_getI dX7_takeDeedWindow_67 fl_X7_48 i1 ?_
    refine wp_aload_n 0 dX7_takeDeedWindow_70 rfl rfl ?_
    obtain ⟨i19, hb⟩ := hb
    refine wp_getR dX7_takeDeedWindow_71 fl_X7_12 i1 (i19.ne (by decide)) ?_
    refine wp_getI dX7_takeDeedWindow_74 fl_X7_97 i19 ?_
    obtain ⟨b20, hb⟩ := hb
    refine wp_iastore dX7_takeDeedWindow_77 i18 b20 ?_
    refine wp_topH (fun h21 e22 => ?_)
    have hb := hb h21 e22
    refine wp_aload_n 0 dX7_takeDeedWindow_78 rfl rfl ?_
    refine wp_dup dX7_takeDeedWindow_79 rfl ?_
    refine wp_getI dX7_takeDeedWindow_80 fl_X7_48 i1 ?_
    refine wp_iconst (v := 1) dX7_takeDeedWindow_83 (by decide) ?_
    refine wp_iadd dX7_takeDeedWindow_84 ?_
    refine wp_putI dX7_takeDeedWindow_85 fl_X7_48 (Or.inl rfl) i1 ?_
    refine wp_topH (fun h23 e24 => ?_)
    have hb := hb h23 e24
    refine wp_aload_n 0 dX7_takeDeedWindow_88 rfl rfl ?_
    refine wp_bipush (v := 21) dX7_takeDeedWindow_89 (by decide) ?_
    refine wp_callV (as := [.int 21]) dX7_takeDeedWindow_91 cb_X7_awaits lk_X7_131 im_X7_awaits se_X7_awaits rfl (Nat.le_of_ble_eq_true rfl) ⟨by decide, by decide⟩ ⟨Nat.le_refl _, Nat.le_refl _, Nat.le_refl _⟩ i1 rfl (by decide) hb (fun r0 h26 hb => ?_)
    obtain ⟨r27, rfl, hb⟩ := hb
    obtain ⟨q28, hb⟩ := hb
    exact wp_zret rfl dX7_takeDeedWindow_94 q28 ⟨_, rfl, hb⟩
  · have hb := hb.2 c3
    refine wp_aload_n 0 dX7_takeDeedWindow_11 rfl rfl ?_
    refine wp_iconst (v := 1) dX7_takeDeedWindow_12 (by decide) ?_
    refine wp_callV (as := [.int 1]) dX7_takeDeedWindow_13 cb_X7_faulty lk_X7_90 im_X7_faulty se_X7_faulty rfl (Nat.le_of_ble_eq_true rfl) ⟨by decide, by decide⟩ ⟨Nat.le_refl _, Nat.le_refl _, Nat.le_refl _⟩ i1 rfl (by decide) hb (fun r0 h30 hb => ?_)
    obtain ⟨r31, rfl, hb⟩ := hb
    obtain ⟨q32, hb⟩ := hb
    exact wp_zret rfl dX7_takeDeedWindow_16 q32 ⟨_, rfl, hb⟩
theorem c_X7_takeDeedWindow {l : Launch} {g : AG} {h : AH} {x0 : Nat}  {Q : Int32 → AH → Prop} (hb : L_X7_takeDeedWindow_0 l g h x0  Q) : C_X7_takeDeedWindow l g h x0  Q := ax_met rfl (Nat.le_of_ble_eq_true rfl) hb
def C_X7_takeDeedVar (l : Launch) (g : AG) (h : AH) (x0 : Nat)  (Q : Int32 → AH → Prop) : Prop := Ct l g mX7_takeDeedVar 3 67 194 194 h [.ref x0] (ax_QI Q)
def L_X7_takeDeedVar_0 (l : Launch) (g : AG) (h : AH) (x0 : Nat)  (Q : Int32 → AH → Prop) : Prop := Wp l g mX7_takeDeedVar 3 67 194 194 194 0 [(0, .ref x0)] [] h (FM g 194 194 (ax_QI Q))
set_option maxRecDepth 100000 in
set_option maxHeartbeats 4000000 in
theorem s_X7_takeDeedVar_0 {l : Launch} {g : AG} {h : AH} {x0 : Nat}  {Q : Int32 → AH → Prop} (hb : (Is 194 x0 6) ∧ ( C_X7_isVar l g h x0 (fun r4 h3 => ( ((r4 = 0 → (Q 0 h3)) ∧ (¬ (r4 = 0) → (C_X7_awaits l g h3 x0 20 (fun r8 h7 => ( ((r8 = 0 → (Q 0 h7)) ∧ (¬ (r8 = 0) → (Q 1 h7)))))))))))) : L_X7_takeDeedVar_0 l g h x0  Q := by
  obtain ⟨i1, hb⟩ := hb
  refine wp_aload_n 0 dX7_takeDeedVar_0 rfl rfl ?_
  refine wp_callV (as := []) dX7_takeDeedVar_1 cb_X7_isVar lk_X7_221 im_X7_isVar se_X7_isVar rfl (Nat.le_of_ble_eq_true rfl) ⟨by decide, by decide⟩ ⟨Nat.le_refl _, Nat.le_refl _, Nat.le_refl _⟩ i1 rfl (by decide) hb (fun r0 h3 hb => ?_)
  obtain ⟨r4, rfl, hb⟩ := hb
  refine wp_if_eq (tgt := 20) dX7_takeDeedVar_4 (by decide) (fun c5 => ?_) (fun c5 => ?_)
  · have hb := hb.1 c5
    refine wp_iconst (v := 0) dX7_takeDeedVar_20 (by decide) ?_
    exact wp_zret rfl dX7_takeDeedVar_21 (Or.inl rfl) ⟨_, rfl, hb⟩
  · have hb := hb.2 c5
    refine wp_aload_n 0 dX7_takeDeedVar_7 rfl rfl ?_
    refine wp_bipush (v := 20) dX7_takeDeedVar_8 (by decide) ?_
    refine wp_callV (as := [.int 20]) dX7_takeDeedVar_10 cb_X7_awaits lk_X7_131 im_X7_awaits se_X7_awaits rfl (Nat.le_of_ble_eq_true rfl) ⟨by decide, by decide⟩ ⟨Nat.le_refl _, Nat.le_refl _, Nat.le_refl _⟩ i1 rfl (by decide) hb (fun r0 h7 hb => ?_)
    obtain ⟨r8, rfl, hb⟩ := hb
    refine wp_if_eq (tgt := 20) dX7_takeDeedVar_13 (by decide) (fun c9 => ?_) (fun c9 => ?_)
    · have hb := hb.1 c9
      refine wp_iconst (v := 0) dX7_takeDeedVar_20 (by decide) ?_
      exact wp_zret rfl dX7_takeDeedVar_21 (Or.inl rfl) ⟨_, rfl, hb⟩
    · have hb := hb.2 c9
      refine wp_iconst (v := 1) dX7_takeDeedVar_16 (by decide) ?_
      refine wp_goto (tgt := 21) dX7_takeDeedVar_17 (by decide) ?_
      exact wp_zret rfl dX7_takeDeedVar_21 (Or.inr rfl) ⟨_, rfl, hb⟩
theorem c_X7_takeDeedVar {l : Launch} {g : AG} {h : AH} {x0 : Nat}  {Q : Int32 → AH → Prop} (hb : L_X7_takeDeedVar_0 l g h x0  Q) : C_X7_takeDeedVar l g h x0  Q := ax_met rfl (Nat.le_of_ble_eq_true rfl) hb
def C_X7_takeDeedNumber (l : Launch) (g : AG) (h : AH) (x0 : Nat)  (Q : Int32 → AH → Prop) : Prop := Ct l g mX7_takeDeedNumber 2 43 194 194 h [.ref x0] (ax_QI Q)
def L_X7_takeDeedNumber_0 (l : Launch) (g : AG) (h : AH) (x0 : Nat)  (Q : Int32 → AH → Prop) : Prop := Wp l g mX7_takeDeedNumber 2 43 194 194 194 0 [(0, .ref x0)] [] h (FM g 194 194 (ax_QI Q))
def L_X7_takeDeedNumber_13 (l : Launch) (g : AG) (h : AH) (x0 : Nat) (s0 : Int32) (Q : Int32 → AH → Prop) : Prop := Wp l g mX7_takeDeedNumber 2 43 194 194 194 13 [(0, .ref x0)] [.int s0] h (FM g 194 194 (ax_QI Q))
def L_X7_takeDeedNumber_29 (l : Launch) (g : AG) (h : AH) (x0 : Nat) (x1 : Int32) (s0 : Int32) (Q : Int32 → AH → Prop) : Prop := Wp l g mX7_takeDeedNumber 2 43 194 194 194 29 [(0, .ref x0), (1, .int x1)] [.int s0] h (FM g 194 194 (ax_QI Q))
def L_X7_takeDeedNumber_51 (l : Launch) (g : AG) (h : AH) (x0 : Nat) (x1 : Int32) (x2 : Int32)  (Q : Int32 → AH → Prop) : Prop := Wp l g mX7_takeDeedNumber 2 43 194 194 194 51 [(0, .ref x0), (1, .int x1), (2, .int x2)] [] h (FM g 194 194 (ax_QI Q))
set_option maxRecDepth 100000 in
set_option maxHeartbeats 4000000 in
theorem s_X7_takeDeedNumber_0 {l : Launch} {g : AG} {h : AH} {x0 : Nat}  {Q : Int32 → AH → Prop} (hb : (Is 194 x0 6) ∧ ( ((¬ h.1 x0 9 = 2 → (L_X7_takeDeedNumber_13 l g h x0 1 Q)) ∧ (h.1 x0 9 = 2 → (L_X7_takeDeedNumber_13 l g h x0 0 Q))))) : L_X7_takeDeedNumber_0 l g h x0  Q := by
  obtain ⟨i1, hb⟩ := hb
  refine wp_aload_n 0 dX7_takeDeedNumber_0 rfl rfl ?_
  refine wp_getI dX7_takeDeedNumber_1 fl_X7_42 i1 ?_
  refine wp_iconst (v := 2) dX7_takeDeedNumber_4 (by decide) ?_
  refine wp_icmp_ne (tgt := 12) dX7_takeDeedNumber_5 (by decide) (fun c2 => ?_) (fun c2 => ?_)
  · have hb := hb.1 c2
    refine wp_iconst (v := 1) dX7_takeDeedNumber_12 (by decide) ?_
    exact hb
  · have hb := hb.2 c2
    refine wp_iconst (v := 0) dX7_takeDeedNumber_8 (by decide) ?_
    refine wp_goto (tgt := 13) dX7_takeDeedNumber_9 (by decide) ?_
    exact hb
set_option maxRecDepth 100000 in
set_option maxHeartbeats 4000000 in
theorem s_X7_takeDeedNumber_13 {l : Launch} {g : AG} {h : AH} {x0 : Nat} {s0 : Int32} {Q : Int32 → AH → Prop} (hb : (Is 194 x0 6) ∧ ( ((¬ h.1 x0 9 = 4 → (L_X7_takeDeedNumber_29 l g h x0 s0 9 Q)) ∧ (h.1 x0 9 = 4 → (L_X7_takeDeedNumber_29 l g h x0 s0 20 Q))))) : L_X7_takeDeedNumber_13 l g h x0 s0 Q := by
  refine wp_istore_n (lv2 := [(1, .int s0), (0, .ref x0)]) dX7_takeDeedNumber_13 rfl (by decide) rfl ?_
  obtain ⟨i3, hb⟩ := hb
  refine wp_aload_n 1 dX7_takeDeedNumber_14 rfl rfl ?_
  refine wp_getI dX7_takeDeedNumber_15 fl_X7_42 i3 ?_
  refine wp_iconst (v := 4) dX7_takeDeedNumber_18 (by decide) ?_
  refine wp_icmp_ne (tgt := 27) dX7_takeDeedNumber_19 (by decide) (fun c4 => ?_) (fun c4 => ?_)
  · have hb := hb.1 c4
    refine wp_bipush (v := 9) dX7_takeDeedNumber_27 (by decide) ?_
    exact wp_sub [1, 0] rfl hb
  · have hb := hb.2 c4
    refine wp_bipush (v := 20) dX7_takeDeedNumber_22 (by decide) ?_
    refine wp_goto (tgt := 29) dX7_takeDeedNumber_24 (by decide) ?_
    exact wp_sub [1, 0] rfl hb
set_option maxRecDepth 100000 in
set_option maxHeartbeats 4000000 in
theorem s_X7_takeDeedNumber_29 {l : Launch} {g : AG} {h : AH} {x0 : Nat} {x1 : Int32} {s0 : Int32} {Q : Int32 → AH → Prop} (hb : (Is 194 x0 6) ∧ ( ((¬ h.1 x0 9 = 2 → (L_X7_takeDeedNumber_51 l g h x0 x1 s0  Q)) ∧ (h.1 x0 9 = 2 → ((Is 194 (h.2.2 x0 1) 0) ∧ ( (Is 194 (h.2.2 (h.2.2 x0 1) 10) 20) ∧ ( (vp_in (h.1 x0 7) (ax_s (h.2.2 (h.2.2 x0 1) 10)).2) ∧ ( ∀ v10 : Int32, v10 = (h.1 (h.2.2 (h.2.2 x0 1) 10) (h.1 x0 7).toNatClampNeg) → ( L_X7_takeDeedNumber_51 l g h x0 x1 v10  Q))))))))) : L_X7_takeDeedNumber_29 l g h x0 x1 s0 Q := by
  refine wp_istore_n (lv2 := [(2, .int s0), (0, .ref x0), (1, .int x1)]) dX7_takeDeedNumber_29 rfl (by decide) rfl ?_
  obtain ⟨i5, hb⟩ := hb
  refine wp_aload_n 1 dX7_takeDeedNumber_30 rfl rfl ?_
  refine wp_getI dX7_takeDeedNumber_31 fl_X7_42 i5 ?_
  refine wp_iconst (v := 2) dX7_takeDeedNumber_34 (by decide) ?_
  refine wp_icmp_ne (tgt := 51) dX7_takeDeedNumber_35 (by decide) (fun c6 => ?_) (fun c6 => ?_)
  · have hb := hb.1 c6
    exact wp_sub [1, 2, 0] rfl hb
  · have hb := hb.2 c6
    refine wp_aload_n 1 dX7_takeDeedNumber_38 rfl rfl ?_
    obtain ⟨i7, hb⟩ := hb
    refine wp_getR dX7_takeDeedNumber_39 fl_X7_64 i5 (i7.ne (by decide)) ?_
    obtain ⟨i8, hb⟩ := hb
    refine wp_getR dX7_takeDeedNumber_42 fl_X7_279 i7 (i8.ne (by decide)) ?_
    refine wp_aload_n 1 dX7_takeDeedNumber_45 rfl rfl ?_
    refine wp_getI dX7_takeDeedNumber_46 fl_X7_36 i5 ?_
    obtain ⟨b9, hb⟩ := hb
    refine wp_iaload dX7_takeDeedNumber_49 i8 b9 ?_
    refine wp_topi (fun v10 e11 => ?_)
    have hb := hb v10 e11
    refine wp_istore_n (lv2 := [(2, .int v10), (0, .ref x0), (1, .int x1)]) dX7_takeDeedNumber_50 rfl (by decide) rfl ?_
    exact wp_sub [1, 2, 0] rfl hb
set_option maxRecDepth 100000 in
set_option maxHeartbeats 4000000 in
theorem s_X7_takeDeedNumber_51 {l : Launch} {g : AG} {h : AH} {x0 : Nat} {x1 : Int32} {x2 : Int32}  {Q : Int32 → AH → Prop} (hb : (Is 194 x0 6) ∧ ( C_X7_isNumber l g h x0 x1 x2 (fun r15 h14 => ( ((¬ r15 = 0 → ((Is 194 (h14.2.2 x0 1) 0) ∧ ( (Is 194 (h14.2.2 (h14.2.2 x0 1) 18) 4) ∧ ( (Is 194 (h14.2.2 x0 0) 7) ∧ ( C_X5_add l g h14 (h14.2.2 (h14.2.2 x0 1) 18) (h14.1 x0 10) (h14.1 x0 9) (h14.1 x0 7) (h14.1 (h14.2.2 x0 0) 6) (fun r22 h21 => ( C_X7_awaits l g h21 x0 21 (fun r25 h24 => ( (r25 = 0 ∨ r25 = 1) ∧ ( Q r25 h24)))))))))) ∧ (r15 = 0 → (Q 0 h14))))))) : L_X7_takeDeedNumber_51 l g h x0 x1 x2  Q := by
  obtain ⟨i12, hb⟩ := hb
  refine wp_aload_n 0 dX7_takeDeedNumber_51 rfl rfl ?_
  refine wp_iload_n 1 dX7_takeDeedNumber_52 rfl rfl ?_
  refine wp_iload_n 2 dX7_takeDeedNumber_53 rfl rfl ?_
  refine wp_callV (as := [.int x1, .int x2]) dX7_takeDeedNumber_54 cb_X7_isNumber lk_X7_186 im_X7_isNumber se_X7_isNumber rfl (Nat.le_of_ble_eq_true rfl) ⟨by decide, by decide⟩ ⟨Nat.le_refl _, Nat.le_refl _, Nat.le_refl _⟩ i12 rfl (by decide) hb (fun r0 h14 hb => ?_)
  obtain ⟨r15, rfl, hb⟩ := hb
  refine wp_if_ne (tgt := 62) dX7_takeDeedNumber_57 (by decide) (fun c16 => ?_) (fun c16 => ?_)
  · have hb := hb.1 c16
    refine wp_aload_n 0 dX7_takeDeedNumber_62 rfl rfl ?_
    obtain ⟨i17, hb⟩ := hb
    refine wp_getR dX7_takeDeedNumber_63 fl_X7_64 i12 (i17.ne (by decide)) ?_
    obtain ⟨i18, hb⟩ := hb
    refine wp_getR dX7_takeDeedNumber_66 fl_X7_263 i17 (i18.ne (by decide)) ?_
    refine wp_aload_n 0 dX7_takeDeedNumber_69 rfl rfl ?_
    refine wp_getI dX7_takeDeedNumber_70 fl_X7_45 i12 ?_
    refine wp_aload_n 0 dX7_takeDeedNumber_73 rfl rfl ?_
    refine wp_getI dX7_takeDeedNumber_74 fl_X7_42 i12 ?_
    refine wp_aload_n 0 dX7_takeDeedNumber_77 rfl rfl ?_
    refine wp_getI dX7_takeDeedNumber_78 fl_X7_36 i12 ?_
    refine wp_aload_n 0 dX7_takeDeedNumber_81 rfl rfl ?_
    obtain ⟨i19, hb⟩ := hb
    refine wp_getR dX7_takeDeedNumber_82 fl_X7_12 i12 (i19.ne (by decide)) ?_
    refine wp_getI dX7_takeDeedNumber_85 fl_X7_165 i19 ?_
    refine wp_callVN (as := [.int (h14.1 x0 10), .int (h14.1 x0 9), .int (h14.1 x0 7), .int (h14.1 (h14.2.2 x0 0) 6)]) dX7_takeDeedNumber_88 cb_X5_add lk_X7_268 im_X5_add se_X5_add rfl (Nat.le_of_ble_eq_true rfl) ⟨by decide, by decide⟩ ⟨Nat.le_refl _, Nat.le_refl _, Nat.le_refl _⟩ i18 rfl (by decide) hb (fun r0 h21 hb => ?_)
    obtain ⟨r22, rfl, hb⟩ := hb
    refine wp_pop dX7_takeDeedNumber_91 rfl ?_
    refine wp_aload_n 0 dX7_takeDeedNumber_92 rfl rfl ?_
    refine wp_bipush (v := 21) dX7_takeDeedNumber_93 (by decide) ?_
    refine wp_callV (as := [.int 21]) dX7_takeDeedNumber_95 cb_X7_awaits lk_X7_131 im_X7_awaits se_X7_awaits rfl (Nat.le_of_ble_eq_true rfl) ⟨by decide, by decide⟩ ⟨Nat.le_refl _, Nat.le_refl _, Nat.le_refl _⟩ i12 rfl (by decide) hb (fun r0 h24 hb => ?_)
    obtain ⟨r25, rfl, hb⟩ := hb
    obtain ⟨q26, hb⟩ := hb
    exact wp_zret rfl dX7_takeDeedNumber_98 q26 ⟨_, rfl, hb⟩
  · have hb := hb.2 c16
    refine wp_iconst (v := 0) dX7_takeDeedNumber_60 (by decide) ?_
    exact wp_zret rfl dX7_takeDeedNumber_61 (Or.inl rfl) ⟨_, rfl, hb⟩
theorem c_X7_takeDeedNumber {l : Launch} {g : AG} {h : AH} {x0 : Nat}  {Q : Int32 → AH → Prop} (hb : L_X7_takeDeedNumber_0 l g h x0  Q) : C_X7_takeDeedNumber l g h x0  Q := ax_met rfl (Nat.le_of_ble_eq_true rfl) hb
