def C_X0_beginning (l : Launch) (g : AG) (h : AH) (x0 : Nat)  (Q : Int64 → AH → Prop) : Prop := Ct l g mX0_beginning 2 46 194 194 h [.ref x0] (ax_QL Q)
def L_X0_beginning_0 (l : Launch) (g : AG) (h : AH) (x0 : Nat)  (Q : Int64 → AH → Prop) : Prop := Wp l g mX0_beginning 2 46 194 194 194 0 [(0, .ref x0)] [] h (FM g 194 194 (ax_QL Q))
set_option maxRecDepth 100000 in
set_option maxHeartbeats 4000000 in
theorem s_X0_beginning_0 {l : Launch} {g : AG} {h : AH} {x0 : Nat}  {Q : Int64 → AH → Prop} (hb : C_X3_alone l g h 0 0 (fun r3 h2 => ( Q r3 h2))) : L_X0_beginning_0 l g h x0  Q := by
  refine wp_iconst (v := 0) dX0_beginning_0 (by decide) ?_
  refine wp_lconst (v := 0) dX0_beginning_1 (by decide) ?_
  refine wp_callSN (as := [.int 0, .long 0]) dX0_beginning_2 cb_X3_alone lk_X0_98 st_X3_alone rfl (Nat.le_of_ble_eq_true rfl) ⟨by decide, by decide⟩ ⟨Nat.le_refl _, Nat.le_refl _, Nat.le_refl _⟩ hb (fun r0 h2 hb => ?_)
  obtain ⟨r3, rfl, hb⟩ := hb
  exact wp_lret rfl dX0_beginning_5 ⟨_, rfl, hb⟩
theorem c_X0_beginning {l : Launch} {g : AG} {h : AH} {x0 : Nat}  {Q : Int64 → AH → Prop} (hb : L_X0_beginning_0 l g h x0  Q) : C_X0_beginning l g h x0  Q := ax_met rfl (Nat.le_of_ble_eq_true rfl) hb
def C_X1_drop (l : Launch) (g : AG) (h : AH) (x0 : Nat)  (Q : AH → Prop) : Prop := Ct l g mX1_drop 0 0 194 194 h [.ref x0] (ax_QV Q)
def L_X1_drop_0 (l : Launch) (g : AG) (h : AH) (x0 : Nat)  (Q : AH → Prop) : Prop := Wp l g mX1_drop 0 0 194 194 194 0 [(0, .ref x0)] [] h (FM g 194 194 (ax_QV Q))
set_option maxRecDepth 100000 in
set_option maxHeartbeats 4000000 in
theorem s_X1_drop_0 {l : Launch} {g : AG} {h : AH} {x0 : Nat}  {Q : AH → Prop} (hb : (Is 194 x0 1) ∧ ( ∀ h2 : AH, h2 = ax_setI h x0 0 (-1) → ( ∀ h4 : AH, h4 = ax_setI h2 x0 5 0 → ( Q h4)))) : L_X1_drop_0 l g h x0  Q := by
  obtain ⟨i1, hb⟩ := hb
  refine wp_aload_n 0 dX1_drop_0 rfl rfl ?_
  refine wp_iconst (v := (-1)) dX1_drop_1 (by decide) ?_
  refine wp_putI dX1_drop_2 fl_X1_9 (Or.inl rfl) i1 ?_
  refine wp_topH (fun h2 e3 => ?_)
  have hb := hb h2 e3
  refine wp_aload_n 0 dX1_drop_5 rfl rfl ?_
  refine wp_iconst (v := 0) dX1_drop_6 (by decide) ?_
  refine wp_putI dX1_drop_7 fl_X1_29 (Or.inl rfl) i1 ?_
  refine wp_topH (fun h4 e5 => ?_)
  have hb := hb h4 e5
  exact wp_vret rfl dX1_drop_10 ⟨rfl, hb⟩
theorem c_X1_drop {l : Launch} {g : AG} {h : AH} {x0 : Nat}  {Q : AH → Prop} (hb : L_X1_drop_0 l g h x0  Q) : C_X1_drop l g h x0  Q := ax_met rfl (Nat.le_of_ble_eq_true rfl) hb
def C_X9_granted (l : Launch) (g : AG) (h : AH) (x0 : Nat) (x1 : Int32)  (Q : Int32 → AH → Prop) : Prop := Ct l g mX9_granted 0 0 194 194 h [.ref x0, .int x1] (ax_QI Q)
def L_X9_granted_0 (l : Launch) (g : AG) (h : AH) (x0 : Nat) (x1 : Int32)  (Q : Int32 → AH → Prop) : Prop := Wp l g mX9_granted 0 0 194 194 194 0 [(0, .ref x0), (1, .int x1)] [] h (FM g 194 194 (ax_QI Q))
set_option maxRecDepth 100000 in
set_option maxHeartbeats 4000000 in
theorem s_X9_granted_0 {l : Launch} {g : AG} {h : AH} {x0 : Nat} {x1 : Int32}  {Q : Int32 → AH → Prop} (hb : (Is 194 x0 8) ∧ ( ∀ h2 : AH, h2 = ax_setI h x0 12 0 → ( Q x1 h2))) : L_X9_granted_0 l g h x0 x1  Q := by
  obtain ⟨i1, hb⟩ := hb
  refine wp_aload_n 0 dX9_granted_0 rfl rfl ?_
  refine wp_iconst (v := 0) dX9_granted_1 (by decide) ?_
  refine wp_putI dX9_granted_2 fl_X9_69 (Or.inl rfl) i1 ?_
  refine wp_topH (fun h2 e3 => ?_)
  have hb := hb h2 e3
  refine wp_iload_n 1 dX9_granted_5 rfl rfl ?_
  exact wp_iret rfl dX9_granted_6 ⟨_, rfl, hb⟩
theorem c_X9_granted {l : Launch} {g : AG} {h : AH} {x0 : Nat} {x1 : Int32}  {Q : Int32 → AH → Prop} (hb : L_X9_granted_0 l g h x0 x1  Q) : C_X9_granted l g h x0 x1  Q := ax_met rfl (Nat.le_of_ble_eq_true rfl) hb
def C_X9_app (l : Launch) (g : AG) (h : AH) (x0 : Nat) (x1 : Int32) (x2 : Int32)  (Q : Int32 → AH → Prop) : Prop := Ct l g mX9_app 9 226 194 194 h [.ref x0, .int x1, .int x2] (ax_QI Q)
def L_X9_app_0 (l : Launch) (g : AG) (h : AH) (x0 : Nat) (x1 : Int32) (x2 : Int32)  (Q : Int32 → AH → Prop) : Prop := Wp l g mX9_app 9 226 194 194 194 0 [(0, .ref x0), (1, .int x1), (2, .int x2)] [] h (FM g 194 194 (ax_QI Q))
set_option maxRecDepth 100000 in
set_option maxHeartbeats 4000000 in
theorem s_X9_app_0 {l : Launch} {g : AG} {h : AH} {x0 : Nat} {x1 : Int32} {x2 : Int32}  {Q : Int32 → AH → Prop} (hb : ((x1 < 0 → ((Is 194 x0 8) ∧ ( C_X9_refused l g h x0 1 (fun r5 h4 => ( Q r5 h4))))) ∧ (¬ (x1 < 0) → (((x1 < 2 → (((x2 < 0 → ((Is 194 x0 8) ∧ ( C_X9_refused l g h x0 2 (fun r11 h10 => ( Q r11 h10))))) ∧ (¬ (x2 < 0) → ((Is 194 x0 8) ∧ ( ((x2 ≤ h.1 x0 1 → (∀ h14 : AH, h14 = ax_setI h x0 1 0 → ( (Is 194 (h14.2.2 x0 4) 6) ∧ ( (Is 194 (h14.2.2 x0 0) 20) ∧ ( (Is 194 (h14.2.2 x0 3) 0) ∧ ( C_X7_reads l g h14 (h14.2.2 x0 4) (h14.2.2 x0 0) x2 (h14.2.2 x0 3) (fun r21 h20 => ( ((¬ r21 = 0 → ((Is 194 (h20.2.2 x0 2) 24) ∧ ( (vp_in x1 (ax_s (h20.2.2 x0 2)).2) ∧ ( (Is 194 (h20.2.2 (h20.2.2 x0 2) x1.toNatClampNeg) 0) ∧ ( ∀ v26 : Nat, v26 = (h20.2.2 (h20.2.2 x0 2) x1.toNatClampNeg) → ( (Is 194 (h20.2.2 x0 2) 24) ∧ ( (Is 194 (h20.2.2 x0 3) 0) ∧ ( (vp_in x1 (ax_s (h20.2.2 x0 2)).2) ∧ ( ∀ h32 : AH, h32 = ax_setR h20 (h20.2.2 x0 2) x1.toNatClampNeg (h20.2.2 x0 3) → ( ∀ h34 : AH, h34 = ax_setR h32 x0 3 v26 → ( (Is 194 (h34.2.2 x0 5) 21) ∧ ( (Is 194 (h34.2.2 x0 2) 24) ∧ ( (vp_in x1 (ax_s (h34.2.2 x0 2)).2) ∧ ( (Is 194 (h34.2.2 (h34.2.2 x0 2) x1.toNatClampNeg) 0) ∧ ( C_X0_beginning l g h34 (h34.2.2 (h34.2.2 x0 2) x1.toNatClampNeg) (fun r42 h41 => ( (vp_in x1 (ax_s (h34.2.2 x0 5)).2) ∧ ( ∀ h44 : AH, h44 = ax_setL h41 (h34.2.2 x0 5) x1.toNatClampNeg r42 → ( (Is 194 (h44.2.2 x0 6) 1) ∧ ( ((¬ h44.1 (h44.2.2 x0 6) 0 = x1 → ((Is 194 (h44.2.2 x0 2) 24) ∧ ( (vp_in x1 (ax_s (h44.2.2 x0 2)).2) ∧ ( (Is 194 (h44.2.2 (h44.2.2 x0 2) x1.toNatClampNeg) 0) ∧ ( C_X9_granted l g h44 x0 (h44.1 (h44.2.2 (h44.2.2 x0 2) x1.toNatClampNeg) 0) (fun r53 h52 => ( Q r53 h52))))))) ∧ (h44.1 (h44.2.2 x0 6) 0 = x1 → ((Is 194 (h44.2.2 x0 6) 1) ∧ ( C_X1_drop l g h44 (h44.2.2 x0 6) (fun h56 => ( (Is 194 (h56.2.2 x0 2) 24) ∧ ( (vp_in x1 (ax_s (h56.2.2 x0 2)).2) ∧ ( (Is 194 (h56.2.2 (h56.2.2 x0 2) x1.toNatClampNeg) 0) ∧ ( C_X9_granted l g h56 x0 (h56.1 (h56.2.2 (h56.2.2 x0 2) x1.toNatClampNeg) 0) (fun r62 h61 => ( Q r62 h61))))))))))))))))))))))))))))))) ∧ (r21 = 0 → (C_X9_refused l g h20 x0 3 (fun r65 h64 => ( Q r65 h64))))))))))))) ∧ (¬ (x2 ≤ h.1 x0 1) → (C_X9_refused l g h x0 2 (fun r68 h67 => ( Q r68 h67))))))))))) ∧ (¬ (x1 < 2) → ((Is 194 x0 8) ∧ ( C_X9_refused l g h x0 1 (fun r72 h71 => ( Q r72 h71)))))))))) : L_X9_app_0 l g h x0 x1 x2  Q := by
  refine wp_iload_n 1 dX9_app_0 rfl rfl ?_
  refine wp_if_lt (tgt := 9) dX9_app_1 (by decide) (fun c1 => ?_) (fun c1 => ?_)
  · have hb := hb.1 c1
    obtain ⟨i2, hb⟩ := hb
    refine wp_aload_n 0 dX9_app_9 rfl rfl ?_
    refine wp_iconst (v := 1) dX9_app_10 (by decide) ?_
    refine wp_callV (as := [.int 1]) dX9_app_11 cb_X9_refused lk_X9_76 im_X9_refused se_X9_refused rfl (Nat.le_of_ble_eq_true rfl) ⟨by decide, by decide⟩ ⟨Nat.le_refl _, Nat.le_refl _, Nat.le_refl _⟩ i2 rfl (by decide) hb (fun r0 h4 hb => ?_)
    obtain ⟨r5, rfl, hb⟩ := hb
    exact wp_iret rfl dX9_app_14 ⟨_, rfl, hb⟩
  · have hb := hb.2 c1
    refine wp_iload_n 1 dX9_app_4 rfl rfl ?_
    refine wp_iconst (v := 2) dX9_app_5 (by decide) ?_
    refine wp_icmp_lt (tgt := 15) dX9_app_6 (by decide) (fun c6 => ?_) (fun c6 => ?_)
    · have hb := hb.1 c6
      refine wp_iload_n 2 dX9_app_15 rfl rfl ?_
      refine wp_if_lt (tgt := 27) dX9_app_16 (by decide) (fun c7 => ?_) (fun c7 => ?_)
      · have hb := hb.1 c7
        obtain ⟨i8, hb⟩ := hb
        refine wp_aload_n 0 dX9_app_27 rfl rfl ?_
        refine wp_iconst (v := 2) dX9_app_28 (by decide) ?_
        refine wp_callV (as := [.int 2]) dX9_app_29 cb_X9_refused lk_X9_76 im_X9_refused se_X9_refused rfl (Nat.le_of_ble_eq_true rfl) ⟨by decide, by decide⟩ ⟨Nat.le_refl _, Nat.le_refl _, Nat.le_refl _⟩ i8 rfl (by decide) hb (fun r0 h10 hb => ?_)
        obtain ⟨r11, rfl, hb⟩ := hb
        exact wp_iret rfl dX9_app_32 ⟨_, rfl, hb⟩
      · have hb := hb.2 c7
        refine wp_iload_n 2 dX9_app_19 rfl rfl ?_
        obtain ⟨i12, hb⟩ := hb
        refine wp_aload_n 0 dX9_app_20 rfl rfl ?_
        refine wp_getI dX9_app_21 fl_X9_13 i12 ?_
        refine wp_icmp_le (tgt := 33) dX9_app_24 (by decide) (fun c13 => ?_) (fun c13 => ?_)
        · have hb := hb.1 c13
          refine wp_aload_n 0 dX9_app_33 rfl rfl ?_
          refine wp_iconst (v := 0) dX9_app_34 (by decide) ?_
          refine wp_putI dX9_app_35 fl_X9_13 (Or.inl rfl) i12 ?_
          refine wp_topH (fun h14 e15 => ?_)
          have hb := hb h14 e15
          refine wp_aload_n 0 dX9_app_38 rfl rfl ?_
          obtain ⟨i16, hb⟩ := hb
          refine wp_getR dX9_app_39 fl_X9_33 i12 (i16.ne (by decide)) ?_
          refine wp_aload_n 0 dX9_app_42 rfl rfl ?_
          obtain ⟨i17, hb⟩ := hb
          refine wp_getR dX9_app_43 fl_X9_9 i12 (i17.ne (by decide)) ?_
          refine wp_iload_n 2 dX9_app_46 rfl rfl ?_
          refine wp_aload_n 0 dX9_app_47 rfl rfl ?_
          obtain ⟨i18, hb⟩ := hb
          refine wp_getR dX9_app_48 fl_X9_24 i12 (i18.ne (by decide)) ?_
          refine wp_callVN (as := [.ref (h14.2.2 x0 0), .int x2, .ref (h14.2.2 x0 3)]) dX9_app_51 cb_X7_reads lk_X9_80 im_X7_reads se_X7_reads rfl (Nat.le_of_ble_eq_true rfl) ⟨by decide, by decide⟩ ⟨Nat.le_refl _, Nat.le_refl _, Nat.le_refl _⟩ i16 rfl (by decide) hb (fun r0 h20 hb => ?_)
          obtain ⟨r21, rfl, hb⟩ := hb
          refine wp_if_ne (tgt := 63) dX9_app_54 (by decide) (fun c22 => ?_) (fun c22 => ?_)
          · have hb := hb.1 c22
            refine wp_aload_n 0 dX9_app_63 rfl rfl ?_
            obtain ⟨i23, hb⟩ := hb
            refine wp_getR dX9_app_64 fl_X9_20 i12 (i23.ne (by decide)) ?_
            refine wp_iload_n 1 dX9_app_67 rfl rfl ?_
            obtain ⟨b24, hb⟩ := hb
            obtain ⟨i25, hb⟩ := hb
            refine wp_aaload24 dX9_app_68 i23 b24 (i25.ne (by decide)) ?_
            refine wp_topr (fun v26 e27 => ?_)
            have hb := hb v26 e27
            have i28 : Is 194 v26 0 := by rw [e27]; exact i25
            refine wp_astore_n (lv2 := [(3, .ref v26), (0, .ref x0), (1, .int x1), (2, .int x2)]) dX9_app_69 rfl (by decide) rfl ?_
            refine wp_aload_n 1 dX9_app_70 rfl rfl ?_
            obtain ⟨i29, hb⟩ := hb
            refine wp_getR dX9_app_71 fl_X9_20 i12 (i29.ne (by decide)) ?_
            refine wp_iload_n 2 dX9_app_74 rfl rfl ?_
            refine wp_aload_n 1 dX9_app_75 rfl rfl ?_
            obtain ⟨i30, hb⟩ := hb
            refine wp_getR dX9_app_76 fl_X9_24 i12 (i30.ne (by decide)) ?_
            obtain ⟨b31, hb⟩ := hb
            refine wp_aastore24 dX9_app_79 i29 i30 b31 ?_
            refine wp_topH (fun h32 e33 => ?_)
            have hb := hb h32 e33
            refine wp_aload_n 1 dX9_app_80 rfl rfl ?_
            refine wp_aload_n 0 dX9_app_81 rfl rfl ?_
            refine wp_putR dX9_app_82 fl_X9_24 (Or.inl rfl) i12 (i28.ne (by decide)) ?_
            refine wp_topH (fun h34 e35 => ?_)
            have hb := hb h34 e35
            refine wp_aload_n 1 dX9_app_85 rfl rfl ?_
            obtain ⟨i36, hb⟩ := hb
            refine wp_getR dX9_app_86 fl_X9_37 i12 (i36.ne (by decide)) ?_
            refine wp_iload_n 2 dX9_app_89 rfl rfl ?_
            refine wp_aload_n 1 dX9_app_90 rfl rfl ?_
            obtain ⟨i37, hb⟩ := hb
            refine wp_getR dX9_app_91 fl_X9_20 i12 (i37.ne (by decide)) ?_
            refine wp_iload_n 2 dX9_app_94 rfl rfl ?_
            obtain ⟨b38, hb⟩ := hb
            obtain ⟨i39, hb⟩ := hb
            refine wp_aaload24 dX9_app_95 i37 b38 (i39.ne (by decide)) ?_
            refine wp_callVN (as := []) dX9_app_96 cb_X0_beginning lk_X9_84 im_X0_beginning se_X0_beginning rfl (Nat.le_of_ble_eq_true rfl) ⟨by decide, by decide⟩ ⟨Nat.le_refl _, Nat.le_refl _, Nat.le_refl _⟩ i39 rfl (by decide) hb (fun r0 h41 hb => ?_)
            obtain ⟨r42, rfl, hb⟩ := hb
            obtain ⟨b43, hb⟩ := hb
            refine wp_lastore dX9_app_99 i36 b43 ?_
            refine wp_topH (fun h44 e45 => ?_)
            have hb := hb h44 e45
            refine wp_aload_n 1 dX9_app_100 rfl rfl ?_
            obtain ⟨i46, hb⟩ := hb
            refine wp_getR dX9_app_101 fl_X9_44 i12 (i46.ne (by decide)) ?_
            refine wp_getI dX9_app_104 fl_X9_88 i46 ?_
            refine wp_iload_n 2 dX9_app_107 rfl rfl ?_
            refine wp_icmp_ne (tgt := 118) dX9_app_108 (by decide) (fun c47 => ?_) (fun c47 => ?_)
            · have hb := hb.1 c47
              refine wp_aload_n 1 dX9_app_118 rfl rfl ?_
              refine wp_aload_n 1 dX9_app_119 rfl rfl ?_
              obtain ⟨i48, hb⟩ := hb
              refine wp_getR dX9_app_120 fl_X9_20 i12 (i48.ne (by decide)) ?_
              refine wp_iload_n 2 dX9_app_123 rfl rfl ?_
              obtain ⟨b49, hb⟩ := hb
              obtain ⟨i50, hb⟩ := hb
              refine wp_aaload24 dX9_app_124 i48 b49 (i50.ne (by decide)) ?_
              refine wp_getI dX9_app_125 fl_X9_94 i50 ?_
              refine wp_callV (as := [.int (h44.1 (h44.2.2 (h44.2.2 x0 2) x1.toNatClampNeg) 0)]) dX9_app_128 cb_X9_granted lk_X9_97 im_X9_granted se_X9_granted rfl (Nat.le_of_ble_eq_true rfl) ⟨by decide, by decide⟩ ⟨Nat.le_refl _, Nat.le_refl _, Nat.le_refl _⟩ i12 rfl (by decide) hb (fun r0 h52 hb => ?_)
              obtain ⟨r53, rfl, hb⟩ := hb
              exact wp_iret rfl dX9_app_131 ⟨_, rfl, hb⟩
            · have hb := hb.2 c47
              refine wp_aload_n 1 dX9_app_111 rfl rfl ?_
              obtain ⟨i54, hb⟩ := hb
              refine wp_getR dX9_app_112 fl_X9_44 i12 (i54.ne (by decide)) ?_
              refine wp_callVN (as := []) dX9_app_115 cb_X1_drop lk_X9_91 im_X1_drop se_X1_drop rfl (Nat.le_of_ble_eq_true rfl) ⟨by decide, by decide⟩ ⟨Nat.le_refl _, Nat.le_refl _, Nat.le_refl _⟩ i54 rfl (by decide) hb (fun r0 h56 hb => ?_)
              obtain ⟨rfl, hb⟩ := hb
              refine wp_aload_n 1 dX9_app_118 rfl rfl ?_
              refine wp_aload_n 1 dX9_app_119 rfl rfl ?_
              obtain ⟨i57, hb⟩ := hb
              refine wp_getR dX9_app_120 fl_X9_20 i12 (i57.ne (by decide)) ?_
              refine wp_iload_n 2 dX9_app_123 rfl rfl ?_
              obtain ⟨b58, hb⟩ := hb
              obtain ⟨i59, hb⟩ := hb
              refine wp_aaload24 dX9_app_124 i57 b58 (i59.ne (by decide)) ?_
              refine wp_getI dX9_app_125 fl_X9_94 i59 ?_
              refine wp_callV (as := [.int (h56.1 (h56.2.2 (h56.2.2 x0 2) x1.toNatClampNeg) 0)]) dX9_app_128 cb_X9_granted lk_X9_97 im_X9_granted se_X9_granted rfl (Nat.le_of_ble_eq_true rfl) ⟨by decide, by decide⟩ ⟨Nat.le_refl _, Nat.le_refl _, Nat.le_refl _⟩ i12 rfl (by decide) hb (fun r0 h61 hb => ?_)
              obtain ⟨r62, rfl, hb⟩ := hb
              exact wp_iret rfl dX9_app_131 ⟨_, rfl, hb⟩
          · have hb := hb.2 c22
            refine wp_aload_n 0 dX9_app_57 rfl rfl ?_
            refine wp_iconst (v := 3) dX9_app_58 (by decide) ?_
            refine wp_callV (as := [.int 3]) dX9_app_59 cb_X9_refused lk_X9_76 im_X9_refused se_X9_refused rfl (Nat.le_of_ble_eq_true rfl) ⟨by decide, by decide⟩ ⟨Nat.le_refl _, Nat.le_refl _, Nat.le_refl _⟩ i12 rfl (by decide) hb (fun r0 h64 hb => ?_)
            obtain ⟨r65, rfl, hb⟩ := hb
            exact wp_iret rfl dX9_app_62 ⟨_, rfl, hb⟩
        · have hb := hb.2 c13
          refine wp_aload_n 0 dX9_app_27 rfl rfl ?_
          refine wp_iconst (v := 2) dX9_app_28 (by decide) ?_
          refine wp_callV (as := [.int 2]) dX9_app_29 cb_X9_refused lk_X9_76 im_X9_refused se_X9_refused rfl (Nat.le_of_ble_eq_true rfl) ⟨by decide, by decide⟩ ⟨Nat.le_refl _, Nat.le_refl _, Nat.le_refl _⟩ i12 rfl (by decide) hb (fun r0 h67 hb => ?_)
          obtain ⟨r68, rfl, hb⟩ := hb
          exact wp_iret rfl dX9_app_32 ⟨_, rfl, hb⟩
    · have hb := hb.2 c6
      obtain ⟨i69, hb⟩ := hb
      refine wp_aload_n 0 dX9_app_9 rfl rfl ?_
      refine wp_iconst (v := 1) dX9_app_10 (by decide) ?_
      refine wp_callV (as := [.int 1]) dX9_app_11 cb_X9_refused lk_X9_76 im_X9_refused se_X9_refused rfl (Nat.le_of_ble_eq_true rfl) ⟨by decide, by decide⟩ ⟨Nat.le_refl _, Nat.le_refl _, Nat.le_refl _⟩ i69 rfl (by decide) hb (fun r0 h71 hb => ?_)
      obtain ⟨r72, rfl, hb⟩ := hb
      exact wp_iret rfl dX9_app_14 ⟨_, rfl, hb⟩
theorem c_X9_app {l : Launch} {g : AG} {h : AH} {x0 : Nat} {x1 : Int32} {x2 : Int32}  {Q : Int32 → AH → Prop} (hb : L_X9_app_0 l g h x0 x1 x2  Q) : C_X9_app l g h x0 x1 x2  Q := ax_met rfl (Nat.le_of_ble_eq_true rfl) hb
