def C_X9_app (l : Launch) (g : AG) (h : AH) (x0 : Nat) (x1 : Int32) (x2 : Int32)  (Q : Int32 → AH → Prop) : Prop := Ct l g mX9_app 9 226 194 194 h [.ref x0, .int x1, .int x2] (ax_QI Q)
def L_X9_app_0 (l : Launch) (g : AG) (h : AH) (x0 : Nat) (x1 : Int32) (x2 : Int32)  (Q : Int32 → AH → Prop) : Prop := Wp l g mX9_app 9 226 194 194 194 0 [(0, .ref x0), (1, .int x1), (2, .int x2)] [] h (FM g 194 194 (ax_QI Q))
set_option maxRecDepth 100000 in
set_option maxHeartbeats 4000000 in
theorem s_X9_app_0 {l : Launch} {g : AG} {h : AH} {x0 : Nat} {x1 : Int32} {x2 : Int32}  {Q : Int32 → AH → Prop} (hb : ((x1 < 0 → ((Is 194 x0 8) ∧ ( C_X9_refused l g h x0 1 (fun r5 h4 => ( Q r5 h4))))) ∧ (¬ (x1 < 0) → (((x1 < 2 → (((x2 < 0 → ((Is 194 x0 8) ∧ ( C_X9_refused l g h x0 2 (fun r11 h10 => ( Q r11 h10))))) ∧ (¬ (x2 < 0) → ((Is 194 x0 8) ∧ ( ((x2 ≤ h.1 x0 1 → (∀ h14 : AH, h14 = ax_setI h x0 1 0 → ( (Is 194 (h14.2.2 x0 4) 6) ∧ ( (Is 194 (h14.2.2 x0 0) 20) ∧ ( (Is 194 (h14.2.2 x0 3) 0) ∧ ( C_X7_reads l g h14 (h14.2.2 x0 4) (h14.2.2 x0 0) x2 (h14.2.2 x0 3) (fun r21 h20 => ( ((¬ r21 = 0 → ((Is 194 (h20.2.2 x0 2) 24) ∧ ( (vp_in x1 (ax_s (h20.2.2 x0 2)).2) ∧ ( (Is 194 (h20.2.2 (h20.2.2 x0 2) x1.toNatClampNeg) 0) ∧ ( ∀ v26 : Nat, v26 = (h20.2.2 (h20.2.2 x0 2) x1.toNatClampNeg) → ( (Is 194 (h20.2.2 x0 2) 24) ∧ ( (Is 194 (h20.2.2 x0 3) 0) ∧ ( (vp_in x1 (ax_s (h20.2.2 x0 2)).2) ∧ ( ∀ h32 : AH, h32 = ax_setR h20 (h20.2.2 x0 2) x1.toNatClampNeg (h20.2.2 x0 3) → ( ∀ h34 : AH, h34 = ax_setR h32 x0 3 v26 → ( (Is 194 (h34.2.2 x0 5) 21) ∧ ( (Is 194 (h34.2.2 x0 2) 24) ∧ ( (vp_in x1 (ax_s (h34.2.2 x0 2)).2) ∧ ( (Is 194 (h34.2.2 (h34.2.2 x0 2) x1.toNatClampNeg) 0) ∧ ( C_X0_beginning l g h34 (h34.2.2 (h34.2.2 x0 2) x1.toNatClampNeg) (fun r42 h41 => ( (vp_in x1 (ax_s (h34.2.2 x0 5)).2) ∧ ( ∀ h44 : AH, h44 = ax_setL h41 (h34.2.2 x0 5) x1.toNatClampNeg r42 → ( (Is 194 (h44.2.2 x0 6) 1) ∧ ( ((¬ h44.1 (h44.2.2 x0 6) 0 = x1 → ((Is 194 (h44.2.2 x0 2) 24) ∧ ( (vp_in x1 (ax_s (h44.2.2 x0 2)).2) ∧ ( (Is 194 (h44.2.2 (h44.2.2 x0 2) x1.toNatClampNeg) 0) ∧ ( C_X9_granted l g h44 x0 (h44.1 (h44.2.2 (h44.2.2 x0 2) x1.toNatClampNeg) 0) (fun r53 h52 => ( Q r53 h52))))))) ∧ (h44.1 (h44.2.2 x0 6) 0 = x1 → ((Is 194 (h44.2.2 x0 6) 1) ∧ ( C_X1_drop l g h44 (h44.2.2 x0 6) (fun h56 => ( (Is 194 (h56.2.2 x0 2) 24) ∧ ( (vp_in x1 (ax_s (h56.2.2 x0 2)).2) ∧ ( (Is 194 (h56.2.2 (h56.2.2 x0 2) x1.toNatClampNeg) 0) ∧ ( C_X9_granted l g h56 x0 (h56.1 (h56.2.2 (h56.2.2 x0 2) x1.toNatClampNeg) 0) (fun r62 h61 => ( Q r62 h61))))))))))))))))))))))))))))))) ∧ (r21 = 0 → (C_X9_refused l g h20 x0 3 (fun r65 h64 => ( Q r65 h64))))))))))))) ∧ (¬ (x2 ≤ h.1 x0 1) → (C_X9_refused l g h x0 2 (fun r68 h67 => ( Q r68 h67))))))))))) ∧ (¬ (x1 < 2) → ((Is 194 x0 8) ∧ ( C_X9_refused l g h x0 1 (fun r72 h71 => ( Q r72 h71)))))))))) : L_X9_app_0 l g h x0 x1 x2  Q := by
  refine wp_iload_n 1 dX9_app_0 rfl rfl ?_
  refine wp_if_lt (tgt := 9) dX9_app_1 (by decide) (fun c1 => ?_) (fun c1 => ?_)
  · have hb := hb.1 c1
    obtain ⟨i2, hb⟩ := hb
    refine wp_aload_n 0 dX9_app_9 rfl rfl ?_
    refine wp_iconst (v := 1) dX9_app_10 (by decide) ?_
    refine wp_callV (as := [.int 1]) dX9_app_11 cb_X9_refused lk_X9_76 im_X9_refused se_X9_refused rfl (Nat.le_of_ble_eq_true rfl) ⟨by decide, by decide⟩ ⟨Nat.le_refl _, Nat.le_refl _, Nat.le_refl _⟩ i2 rfl (by decide) hb (fun r0 h4 hb => ?_)
    obtain ⟨r5, rfl, hb⟩ := hb
    exact wp_iret rfl dX9_app_14 ⟨_, rfl, hb⟩
  · have hb := hb.2 c1
    refine wp_iload_n 1 dX9_app_4 rfl rfl ?_
    refine wp_iconst (v := 2) dX9_app_5 (by decide) ?_
    refine wp_icmp_lt (tgt := 15) dX9_app_6 (by decide) (fun c6 => ?_) (fun c6 => ?_)
    · have hb := hb.1 c6
      refine wp_iload_n 2 dX9_app_15 rfl rfl ?_
      refine wp_if_lt (tgt := 27) dX9_app_16 (by decide) (fun c7 => ?_) (fun c7 => ?_)
      · have hb := hb.1 c7
        obtain ⟨i8, hb⟩ := hb
        refine wp_aload_n 0 dX9_app_27 rfl rfl ?_
        refine wp_iconst (v := 2) dX9_app_28 (by decide) ?_
        refine wp_callV (as := [.int 2]) dX9_app_29 cb_X9_refused lk_X9_76 im_X9_refused se_X9_refused rfl (Nat.le_of_ble_eq_true rfl) ⟨by decide, by decide⟩ ⟨Nat.le_refl _, Nat.le_refl _, Nat.le_refl _⟩ i8 rfl (by decide) hb (fun r0 h10 hb => ?_)
        obtain ⟨r11, rfl, hb⟩ := hb
        exact wp_iret rfl dX9_app_32 ⟨_, rfl, hb⟩
      · have hb := hb.2 c7
        refine wp_iload_n 2 dX9_app_19 rfl rfl ?_
        obtain ⟨i12, hb⟩ := hb
        refine wp_aload_n 0 dX9_app_20 rfl rfl ?_
        refine wp_getI dX9_app_21 fl_X9_13 i12 ?_
        refine wp_icmp_le (tgt := 33) dX9_app_24 (by decide) (fun c13 => ?_) (fun c13 => ?_)
        · have hb := hb.1 c13
          refine wp_aload_n 0 dX9_app_33 rfl rfl ?_
          refine wp_iconst (v := 0) dX9_app_34 (by decide) ?_
          refine wp_putI dX9_app_35 fl_X9_13 (Or.inl rfl) i12 ?_
          refine wp_topH (fun h14 e15 => ?_)
          have hb := hb h14 e15
          refine wp_aload_n 0 dX9_app_38 rfl rfl ?_
          obtain ⟨i16, hb⟩ := hb
          refine wp_getR dX9_app_39 fl_X9_33 i12 (i16.ne (by decide)) ?_
          refine wp_aload_n 0 dX9_app_42 rfl rfl ?_
          obtain ⟨i17, hb⟩ := hb
          refine wp_getR dX9_app_43 fl_X9_9 i12 (i17.ne (by decide)) ?_
          refine wp_iload_n 2 dX9_app_46 rfl rfl ?_
          refine wp_aload_n 0 dX9_app_47 rfl rfl ?_
          obtain ⟨i18, hb⟩ := hb
          refine wp_getR dX9_app_48 fl_X9_24 i12 (i18.ne (by decide)) ?_
          refine wp_callVN (as := [.ref (h14.2.2 x0 0), .int x2, .ref (h14.2.2 x0 3)]) dX9_app_51 cb_X7_reads lk_X9_80 im_X7_reads se_X7_reads rfl (Nat.le_of_ble_eq_true rfl) ⟨by decide, by decide⟩ ⟨Nat.le_refl _, Nat.le_refl _, Nat.le_refl _⟩ i16 rfl (by decide) hb (fun r0 h20 hb => ?_)
          obtain ⟨r21, rfl, hb⟩ := hb
          refine wp_if_ne (tgt := 63) dX9_app_54 (by decide) (fun c22 => ?_) (fun c22 => ?_)
          · have hb := hb.1 c22
            refine wp_aload_n 0 dX9_app_63 rfl rfl ?_
            obtain ⟨i23, hb⟩ := hb
            refine wp_getR dX9_app_64 fl_X9_20 i12 (i23.ne (by decide)) ?_
            refine wp_iload_n 1 dX9_app_67 rfl rfl ?_
            obtain ⟨b24, hb⟩ := hb
            obtain ⟨i25, hb⟩ := hb
            refine wp_aaload24 dX9_app_68 i23 b24 (i25.ne (by decide)) ?_
            refine wp_topr (fun v26 e27 => ?_)
            have hb := hb v26 e27
            have i28 : Is 194 v26 0 := by rw [e27]; exact i25
            refine wp_astore_n (lv2 := [(3, .ref v26), (0, .ref x0), (1, .int x1), (2, .int x2)]) dX9_app_69 rfl (by decide) rfl ?_
            refine wp_aload_n 1 dX9_app_70 rfl rfl ?_
            obtain ⟨i29, hb⟩ := hb
            refine wp_getR dX9_app_71 fl_X9_20 i12 (i29.ne (by decide)) ?_
            refine wp_iload_n 2 dX9_app_74 rfl rfl ?_
            refine wp_aload_n 1 dX9_app_75 rfl rfl ?_
            obtain ⟨i30, hb⟩ := hb
            refine wp_getR dX9_app_76 fl_X9_24 i12 (i30.ne (by decide)) ?_
            obtain ⟨b31, hb⟩ := hb
            refine wp_aastore24 dX9_app_79 i29 i30 b31 ?_
            refine wp_topH (fun h32 e33 => ?_)
            have hb := hb h32 e33
            refine wp_aload_n 1 dX9_app_80 rfl rfl ?_
            refine wp_aload_n 0 dX9_app_81 rfl rfl ?_
            refine wp_putR dX9_app_82 fl_X9_24 (Or.inl rfl) i12 (i28.ne (by decide)) ?_
            refine wp_topH (fun h34 e35 => ?_)
            have hb := hb h34 e35
            refine wp_aload_n 1 dX9_app_85 rfl rfl ?_
            obtain ⟨i36, hb⟩ := hb
            refine wp_getR dX9_app_86 fl_X9_37 i12 (i36.ne (by decide)) ?_
            refine wp_iload_n 2 dX9_app_89 rfl rfl ?_
            refine wp_aload_n 1 dX9_app_90 rfl rfl ?_
            obtain ⟨i37, hb⟩ := hb
            refine wp_getR dX9_app_91 fl_X9_20 i12 (i37.ne (by decide)) ?_
            refine wp_iload_n 2 dX9_app_94 rfl rfl ?_
            obtain ⟨b38, hb⟩ := hb
            obtain ⟨i39, hb⟩ := hb
            refine wp_aaload24 dX9_app_95 i37 b38 (i39.ne (by decide)) ?_
            refine wp_callVN (as := []) dX9_app_96 cb_X0_beginning lk_X9_84 im_X0_beginning se_X0_beginning rfl (Nat.le_of_ble_eq_true rfl) ⟨by decide, by decide⟩ ⟨Nat.le_refl _, Nat.le_refl _, Nat.le_refl _⟩ i39 rfl (by decide) hb (fun r0 h41 hb => ?_)
            obtain ⟨r42, rfl, hb⟩ := hb
            obtain ⟨b43, hb⟩ := hb
            refine wp_lastore dX9_app_99 i36 b43 ?_
            refine wp_topH (fun h44 e45 => ?_)
            have hb := hb h44 e45
            refine wp_aload_n 1 dX9_app_100 rfl rfl ?_
            obtain ⟨i46, hb⟩ := hb
            refine wp_getR dX9_app_101 fl_X9_44 i12 (i46.ne (by decide)) ?_
            refine wp_getI dX9_app_104 fl_X9_88 i46 ?_
            refine wp_iload_n 2 dX9_app_107 rfl rfl ?_
            refine wp_icmp_ne (tgt := 118) dX9_app_108 (by decide) (fun c47 => ?_) (fun c47 => ?_)
            · have hb := hb.1 c47
              refine wp_aload_n 1 dX9_app_118 rfl rfl ?_
              refine wp_aload_n 1 dX9_app_119 rfl rfl ?_
              obtain ⟨i48, hb⟩ := hb
              refine wp_getR dX9_app_120 fl_X9_20 i12 (i48.ne (by decide)) ?_
              refine wp_iload_n 2 dX9_app_123 rfl rfl ?_
              obtain ⟨b49, hb⟩ := hb
              obtain ⟨i50, hb⟩ := hb
              refine wp_aaload24 dX9_app_124 i48 b49 (i50.ne (by decide)) ?_
              refine wp_getI dX9_app_125 fl_X9_94 i50 ?_
              refine wp_callV (as := [.int (h44.1 (h44.2.2 (h44.2.2 x0 2) x1.toNatClampNeg) 0)]) dX9_app_128 cb_X9_granted lk_X9_97 im_X9_granted se_X9_granted rfl (Nat.le_of_ble_eq_true rfl) ⟨by decide, by decide⟩ ⟨Nat.le_refl _, Nat.le_refl _, Nat.le_refl _⟩ i12 rfl (by decide) hb (fun r0 h52 hb => ?_)
              obtain ⟨r53, rfl, hb⟩ := hb
              exact wp_iret rfl dX9_app_131 ⟨_, rfl, hb⟩
            · have hb := hb.2 c47
              refine wp_aload_n 1 dX9_app_111 rfl rfl ?_
              obtain ⟨i54, hb⟩ := hb
              refine wp_getR dX9_app_112 fl_X9_44 i12 (i54.ne (by decide)) ?_
              refine wp_callVN (as := []) dX9_app_115 cb_X1_drop lk_X9_91 im_X1_drop se_X1_drop rfl (Nat.le_of_ble_eq_true rfl) ⟨by decide, by decide⟩ ⟨Nat.le_refl _, Nat.le_refl _, Nat.le_refl _⟩ i54 rfl (by decide) hb (fun r0 h56 hb => ?_)
              obtain ⟨rfl, hb⟩ := hb
              refine wp_aload_n 1 dX9_app_118 rfl rfl ?_
              refine wp_aload_n 1 dX9_app_119 rfl rfl ?_
              obtain ⟨i57, hb⟩ := hb
              refine wp_getR dX9_app_120 fl_X9_20 i12 (i57.ne (by decide)) ?_
              refine wp_iload_n 2 dX9_app_123 rfl rfl ?_
              obtain ⟨b58, hb⟩ := hb
              obtain ⟨i59, hb⟩ := hb
              refine wp_aaload24 dX9_app_124 i57 b58 (i59.ne (by decide)) ?_
              refine wp_getI dX9_app_125 fl_X9_94 i59 ?_
              refine wp_callV (as := [.int (h56.1 (h56.2.2 (h56.2.2 x0 2) x1.toNatClampNeg) 0)]) dX9_app_128 cb_X9_granted lk_X9_97 im_X9_granted se_X9_granted rfl (Nat.le_of_ble_eq_true rfl) ⟨by decide, by decide⟩ ⟨Nat.le_refl _, Nat.le_refl _, Nat.le_refl _⟩ i12 rfl (by decide) hb (fun r0 h61 hb => ?_)
              obtain ⟨r62, rfl, hb⟩ := hb
              exact wp_iret rfl dX9_app_131 ⟨_, rfl, hb⟩
          · have hb := hb.2 c22
            refine wp_aload_n 0 dX9_app_57 rfl rfl ?_
            refine wp_iconst (v := 3) dX9_app_58 (by decide) ?_
            refine wp_callV (as := [.int 3]) dX9_app_59 cb_X9_refused lk_X9_76 im_X9_refused se_X9_refused rfl (Nat.le_of_ble_eq_true rfl) ⟨by decide, by decide⟩ ⟨Nat.le_refl _, Nat.le_refl _, Nat.le_refl _⟩ i12 rfl (by decide) hb (fun r0 h64 hb => ?_)
            obtain ⟨r65, rfl, hb⟩ := hb
            exact wp_iret rfl dX9_app_62 ⟨_, rfl, hb⟩
        · have hb := hb.2 c13
          refine wp_aload_n 0 dX9_app_27 rfl rfl ?_
          refine wp_iconst (v := 2) dX9_app_28 (by decide) ?_
          refine wp_callV (as := [.int 2]) dX9_app_29 cb_X9_refused lk_X9_76 im_X9_refused se_X9_refused rfl (Nat.le_of_ble_eq_true rfl) ⟨by decide, by decide⟩ ⟨Nat.le_refl _, Nat.le_refl _, Nat.le_refl _⟩ i12 rfl (by decide) hb (fun r0 h67 hb => ?_)
          obtain ⟨r68, rfl, hb⟩ := hb
          exact wp_iret rfl dX9_app_32 ⟨_, rfl, hb⟩
    · have hb := hb.2 c6
      obtain ⟨i69, hb⟩ := hb
      refine wp_aload_n 0 dX9_app_9 rfl rfl ?_
      refine wp_iconst (v := 1) dX9_app_10 (by decide) ?_
      refine wp_callV (as := [.int 1]) dX9_app_11 cb_X9_refused lk_X9_76 im_X9_refused se_X9_refused rfl (Nat.le_of_ble_eq_true rfl) ⟨by decide, by decide⟩ ⟨Nat.le_refl _, Nat.le_refl _, Nat.le_refl _⟩ i69 rfl (by decide) hb (fun r0 h71 hb => ?_)
      obtain ⟨r72, rfl, hb⟩ := hb
      exact wp_iret rfl dX9_app_14 ⟨_, rfl, hb⟩
theorem c_X9_app {l : Launch} {g : AG} {h : AH} {x0 : Nat} {x1 : Int32} {x2 : Int32}  {Q : Int32 → AH → Prop} (hb : L_X9_app_0 l g h x0 x1 x2  Q) : C_X9_app l g h x0 x1 x2  Q := ax_met rfl rfl (Nat.le_of_ble_eq_true rfl) hb
def C_X9_fault (l : Launch) (g : AG) (h : AH) (x0 : Nat)  (Q : Int32 → AH → Prop) : Prop := Ct l g mX9_fault 0 0 194 194 h [.ref x0] (ax_QI Q)
def L_X9_fault_0 (l : Launch) (g : AG) (h : AH) (x0 : Nat)  (Q : Int32 → AH → Prop) : Prop := Wp l g mX9_fault 0 0 194 194 194 0 [(0, .ref x0)] [] h (FM g 194 194 (ax_QI Q))
set_option maxRecDepth 100000 in
set_option maxHeartbeats 4000000 in
theorem s_X9_fault_0 {l : Launch} {g : AG} {h : AH} {x0 : Nat}  {Q : Int32 → AH → Prop} (hb : (Is 194 x0 8) ∧ ( (Is 194 (h.2.2 x0 4) 6) ∧ ( Q (h.1 (h.2.2 x0 4) 3) h))) : L_X9_fault_0 l g h x0  Q := by
  obtain ⟨i1, hb⟩ := hb
  refine wp_aload_n 0 dX9_fault_0 rfl rfl ?_
  obtain ⟨i2, hb⟩ := hb
  refine wp_getR dX9_fault_1 fl_X9_33 i1 (i2.ne (by decide)) ?_
  refine wp_getI dX9_fault_4 fl_X9_100 i2 ?_
  exact wp_iret rfl dX9_fault_7 ⟨_, rfl, hb⟩
theorem c_X9_fault {l : Launch} {g : AG} {h : AH} {x0 : Nat}  {Q : Int32 → AH → Prop} (hb : L_X9_fault_0 l g h x0  Q) : C_X9_fault l g h x0  Q := ax_met rfl rfl (Nat.le_of_ble_eq_true rfl) hb
def C_X9_where (l : Launch) (g : AG) (h : AH) (x0 : Nat)  (Q : Int32 → AH → Prop) : Prop := Ct l g mX9_where 0 0 194 194 h [.ref x0] (ax_QI Q)
def L_X9_where_0 (l : Launch) (g : AG) (h : AH) (x0 : Nat)  (Q : Int32 → AH → Prop) : Prop := Wp l g mX9_where 0 0 194 194 194 0 [(0, .ref x0)] [] h (FM g 194 194 (ax_QI Q))
set_option maxRecDepth 100000 in
set_option maxHeartbeats 4000000 in
theorem s_X9_where_0 {l : Launch} {g : AG} {h : AH} {x0 : Nat}  {Q : Int32 → AH → Prop} (hb : (Is 194 x0 8) ∧ ( ((¬ h.1 x0 12 = 3 → (Q (-1) h)) ∧ (h.1 x0 12 = 3 → ((Is 194 (h.2.2 x0 4) 6) ∧ ( Q (h.1 (h.2.2 x0 4) 4) h)))))) : L_X9_where_0 l g h x0  Q := by
  obtain ⟨i1, hb⟩ := hb
  refine wp_aload_n 0 dX9_where_0 rfl rfl ?_
  refine wp_getI dX9_where_1 fl_X9_69 i1 ?_
  refine wp_iconst (v := 3) dX9_where_4 (by decide) ?_
  refine wp_icmp_ne (tgt := 18) dX9_where_5 (by decide) (fun c2 => ?_) (fun c2 => ?_)
  · have hb := hb.1 c2
    refine wp_iconst (v := (-1)) dX9_where_18 (by decide) ?_
    exact wp_iret rfl dX9_where_19 ⟨_, rfl, hb⟩
  · have hb := hb.2 c2
    refine wp_aload_n 0 dX9_where_8 rfl rfl ?_
    obtain ⟨i3, hb⟩ := hb
    refine wp_getR dX9_where_9 fl_X9_33 i1 (i3.ne (by decide)) ?_
    refine wp_getI dX9_where_12 fl_X9_103 i3 ?_
    refine wp_goto (tgt := 19) dX9_where_15 (by decide) ?_
    exact wp_iret rfl dX9_where_19 ⟨_, rfl, hb⟩
theorem c_X9_where {l : Launch} {g : AG} {h : AH} {x0 : Nat}  {Q : Int32 → AH → Prop} (hb : L_X9_where_0 l g h x0  Q) : C_X9_where l g h x0  Q := ax_met rfl rfl (Nat.le_of_ble_eq_true rfl) hb
def C_X9_has (l : Launch) (g : AG) (h : AH) (x0 : Nat) (x1 : Int32)  (Q : Int32 → AH → Prop) : Prop := Ct l g mX9_has 0 0 194 194 h [.ref x0, .int x1] (ax_QI Q)
def L_X9_has_0 (l : Launch) (g : AG) (h : AH) (x0 : Nat) (x1 : Int32)  (Q : Int32 → AH → Prop) : Prop := Wp l g mX9_has 0 0 194 194 194 0 [(0, .ref x0), (1, .int x1)] [] h (FM g 194 194 (ax_QI Q))
set_option maxRecDepth 100000 in
set_option maxHeartbeats 4000000 in
theorem s_X9_has_0 {l : Launch} {g : AG} {h : AH} {x0 : Nat} {x1 : Int32}  {Q : Int32 → AH → Prop} (hb : ((x1 < 0 → (Q 0 h)) ∧ (¬ (x1 < 0) → (((2 ≤ x1 → (Q 0 h)) ∧ (¬ (2 ≤ x1) → ((Is 194 x0 8) ∧ ( (Is 194 (h.2.2 x0 2) 24) ∧ ( (vp_in x1 (ax_s (h.2.2 x0 2)).2) ∧ ( (Is 194 (h.2.2 (h.2.2 x0 2) x1.toNatClampNeg) 0) ∧ ( ((h.1 (h.2.2 (h.2.2 x0 2) x1.toNatClampNeg) 0 ≤ 0 → (Q 0 h)) ∧ (¬ (h.1 (h.2.2 (h.2.2 x0 2) x1.toNatClampNeg) 0 ≤ 0) → (Q 1 h)))))))))))))) : L_X9_has_0 l g h x0 x1  Q := by
  refine wp_iload_n 1 dX9_has_0 rfl rfl ?_
  refine wp_if_lt (tgt := 25) dX9_has_1 (by decide) (fun c1 => ?_) (fun c1 => ?_)
  · have hb := hb.1 c1
    refine wp_iconst (v := 0) dX9_has_25 (by decide) ?_
    exact wp_zret rfl dX9_has_26 (Or.inl rfl) ⟨_, rfl, hb⟩
  · have hb := hb.2 c1
    refine wp_iload_n 1 dX9_has_4 rfl rfl ?_
    refine wp_iconst (v := 2) dX9_has_5 (by decide) ?_
    refine wp_icmp_ge (tgt := 25) dX9_has_6 (by decide) (fun c2 => ?_) (fun c2 => ?_)
    · have hb := hb.1 c2
      refine wp_iconst (v := 0) dX9_has_25 (by decide) ?_
      exact wp_zret rfl dX9_has_26 (Or.inl rfl) ⟨_, rfl, hb⟩
    · have hb := hb.2 c2
      obtain ⟨i3, hb⟩ := hb
      refine wp_aload_n 0 dX9_has_9 rfl rfl ?_
      obtain ⟨i4, hb⟩ := hb
      refine wp_getR dX9_has_10 fl_X9_20 i3 (i4.ne (by decide)) ?_
      refine wp_iload_n 1 dX9_has_13 rfl rfl ?_
      obtain ⟨b5, hb⟩ := hb
      obtain ⟨i6, hb⟩ := hb
      refine wp_aaload24 dX9_has_14 i4 b5 (i6.ne (by decide)) ?_
      refine wp_getI dX9_has_15 fl_X9_94 i6 ?_
      refine wp_if_le (tgt := 25) dX9_has_18 (by decide) (fun c7 => ?_) (fun c7 => ?_)
      · have hb := hb.1 c7
        refine wp_iconst (v := 0) dX9_has_25 (by decide) ?_
        exact wp_zret rfl dX9_has_26 (Or.inl rfl) ⟨_, rfl, hb⟩
      · have hb := hb.2 c7
        refine wp_iconst (v := 1) dX9_has_21 (by decide) ?_
        refine wp_goto (tgt := 26) dX9_has_22 (by decide) ?_
        exact wp_zret rfl dX9_has_26 (Or.inr rfl) ⟨_, rfl, hb⟩
theorem c_X9_has {l : Launch} {g : AG} {h : AH} {x0 : Nat} {x1 : Int32}  {Q : Int32 → AH → Prop} (hb : L_X9_has_0 l g h x0 x1  Q) : C_X9_has l g h x0 x1  Q := ax_met rfl rfl (Nat.le_of_ble_eq_true rfl) hb
def C_X9_about (l : Launch) (g : AG) (h : AH) (x0 : Nat) (x1 : Int32) (x2 : Int32)  (Q : Int32 → AH → Prop) : Prop := Ct l g mX9_about 1 21 194 194 h [.ref x0, .int x1, .int x2] (ax_QI Q)
def L_X9_about_0 (l : Launch) (g : AG) (h : AH) (x0 : Nat) (x1 : Int32) (x2 : Int32)  (Q : Int32 → AH → Prop) : Prop := Wp l g mX9_about 1 21 194 194 194 0 [(0, .ref x0), (1, .int x1), (2, .int x2)] [] h (FM g 194 194 (ax_QI Q))
set_option maxRecDepth 100000 in
set_option maxHeartbeats 4000000 in
theorem s_X9_about_0 {l : Launch} {g : AG} {h : AH} {x0 : Nat} {x1 : Int32} {x2 : Int32}  {Q : Int32 → AH → Prop} (hb : (Is 194 x0 8) ∧ ( C_X9_has l g h x0 x1 (fun r4 h3 => ( ((¬ r4 = 0 → ((Is 194 (h3.2.2 x0 2) 24) ∧ ( (vp_in x1 (ax_s (h3.2.2 x0 2)).2) ∧ ( (Is 194 (h3.2.2 (h3.2.2 x0 2) x1.toNatClampNeg) 0) ∧ ( ∀ v9 : Nat, v9 = (h3.2.2 (h3.2.2 x0 2) x1.toNatClampNeg) → ( ((x2 = 0 → (Q (h3.1 v9 0) h3)) ∧ (¬ x2 = 0 → (((x2 = 1 → (Q (h3.1 v9 1) h3)) ∧ (¬ x2 = 1 → (((x2 = 2 → (Q (h3.1 v9 2) h3)) ∧ (¬ x2 = 2 → (((x2 = 3 → (Q (h3.1 v9 3) h3)) ∧ (¬ x2 = 3 → (((x2 = 4 → (Q (h3.1 v9 4) h3)) ∧ (¬ x2 = 4 → (((x2 = 5 → (Q (h3.1 v9 5) h3)) ∧ (¬ x2 = 5 → (Q (-1) h3)))))))))))))))))))))))) ∧ (r4 = 0 → (Q (-1) h3))))))) : L_X9_about_0 l g h x0 x1 x2  Q := by
  obtain ⟨i1, hb⟩ := hb
  refine wp_aload_n 0 dX9_about_0 rfl rfl ?_
  refine wp_iload_n 1 dX9_about_1 rfl rfl ?_
  refine wp_callV (as := [.int x1]) dX9_about_2 cb_X9_has lk_X9_106 im_X9_has se_X9_has rfl (Nat.le_of_ble_eq_true rfl) ⟨by decide, by decide⟩ ⟨Nat.le_refl _, Nat.le_refl _, Nat.le_refl _⟩ i1 rfl (by decide) hb (fun r0 h3 hb => ?_)
  obtain ⟨r4, rfl, hb⟩ := hb
  refine wp_if_ne (tgt := 10) dX9_about_5 (by decide) (fun c5 => ?_) (fun c5 => ?_)
  · have hb := hb.1 c5
    refine wp_aload_n 0 dX9_about_10 rfl rfl ?_
    obtain ⟨i6, hb⟩ := hb
    refine wp_getR dX9_about_11 fl_X9_20 i1 (i6.ne (by decide)) ?_
    refine wp_iload_n 1 dX9_about_14 rfl rfl ?_
    obtain ⟨b7, hb⟩ := hb
    obtain ⟨i8, hb⟩ := hb
    refine wp_aaload24 dX9_about_15 i6 b7 (i8.ne (by decide)) ?_
    refine wp_topr (fun v9 e10 => ?_)
    have hb := hb v9 e10
    have i11 : Is 194 v9 0 := by rw [e10]; exact i8
    refine wp_astore_n (lv2 := [(3, .ref v9), (0, .ref x0), (1, .int x1), (2, .int x2)]) dX9_about_16 rfl (by decide) rfl ?_
    refine wp_iload_n 3 dX9_about_17 rfl rfl ?_
    refine wp_case 0 (fun c12 => ?_) (fun c12 => ?_)
    · have hb := hb.1 c12
      refine wp_tableIn (v := 0) (tgt := 56) dX9_about_18 c12 (by decide) (by decide) rfl (by decide) ?_
      refine wp_aload_n 0 dX9_about_56 rfl rfl ?_
      refine wp_getI dX9_about_57 fl_X9_94 i11 ?_
      exact wp_iret rfl dX9_about_60 ⟨_, rfl, hb⟩
    · have hb := hb.2 c12
      refine wp_case 1 (fun c13 => ?_) (fun c13 => ?_)
      · have hb := hb.1 c13
        refine wp_tableIn (v := 1) (tgt := 61) dX9_about_18 c13 (by decide) (by decide) rfl (by decide) ?_
        refine wp_aload_n 0 dX9_about_61 rfl rfl ?_
        refine wp_getI dX9_about_62 fl_X9_110 i11 ?_
        exact wp_iret rfl dX9_about_65 ⟨_, rfl, hb⟩
      · have hb := hb.2 c13
        refine wp_case 2 (fun c14 => ?_) (fun c14 => ?_)
        · have hb := hb.1 c14
          refine wp_tableIn (v := 2) (tgt := 66) dX9_about_18 c14 (by decide) (by decide) rfl (by decide) ?_
          refine wp_aload_n 0 dX9_about_66 rfl rfl ?_
          refine wp_getI dX9_about_67 fl_X9_113 i11 ?_
          exact wp_iret rfl dX9_about_70 ⟨_, rfl, hb⟩
        · have hb := hb.2 c14
          refine wp_case 3 (fun c15 => ?_) (fun c15 => ?_)
          · have hb := hb.1 c15
            refine wp_tableIn (v := 3) (tgt := 71) dX9_about_18 c15 (by decide) (by decide) rfl (by decide) ?_
            refine wp_aload_n 0 dX9_about_71 rfl rfl ?_
            refine wp_getI dX9_about_72 fl_X9_116 i11 ?_
            exact wp_iret rfl dX9_about_75 ⟨_, rfl, hb⟩
          · have hb := hb.2 c15
            refine wp_case 4 (fun c16 => ?_) (fun c16 => ?_)
            · have hb := hb.1 c16
              refine wp_tableIn (v := 4) (tgt := 76) dX9_about_18 c16 (by decide) (by decide) rfl (by decide) ?_
              refine wp_aload_n 0 dX9_about_76 rfl rfl ?_
              refine wp_getI dX9_about_77 fl_X9_119 i11 ?_
              exact wp_iret rfl dX9_about_80 ⟨_, rfl, hb⟩
            · have hb := hb.2 c16
              refine wp_case 5 (fun c17 => ?_) (fun c17 => ?_)
              · have hb := hb.1 c17
                refine wp_tableIn (v := 5) (tgt := 81) dX9_about_18 c17 (by decide) (by decide) rfl (by decide) ?_
                refine wp_aload_n 0 dX9_about_81 rfl rfl ?_
                refine wp_getI dX9_about_82 fl_X9_122 i11 ?_
                exact wp_iret rfl dX9_about_85 ⟨_, rfl, hb⟩
              · have hb := hb.2 c17
                refine wp_tableOut (tgt := 86) dX9_about_18 (by have zc12 := lv_neT (k := 0) (a := 0) c12 rfl; have zc13 := lv_neT (k := 1) (a := 1) c13 rfl; have zc14 := lv_neT (k := 2) (a := 2) c14 rfl; have zc15 := lv_neT (k := 3) (a := 3) c15 rfl; have zc16 := lv_neT (k := 4) (a := 4) c16 rfl; have zc17 := lv_neT (k := 5) (a := 5) c17 rfl; omega) (by decide) ?_
                refine wp_iconst (v := (-1)) dX9_about_86 (by decide) ?_
                exact wp_iret rfl dX9_about_87 ⟨_, rfl, hb⟩
  · have hb := hb.2 c5
    refine wp_iconst (v := (-1)) dX9_about_8 (by decide) ?_
    exact wp_iret rfl dX9_about_9 ⟨_, rfl, hb⟩
theorem c_X9_about {l : Launch} {g : AG} {h : AH} {x0 : Nat} {x1 : Int32} {x2 : Int32}  {Q : Int32 → AH → Prop} (hb : L_X9_about_0 l g h x0 x1 x2  Q) : C_X9_about l g h x0 x1 x2  Q := ax_met rfl rfl (Nat.le_of_ble_eq_true rfl) hb
def C_X9_button (l : Launch) (g : AG) (h : AH) (x0 : Nat) (x1 : Int32) (x2 : Int32) (x3 : Int32)  (Q : Int32 → AH → Prop) : Prop := Ct l g mX9_button 1 21 194 194 h [.ref x0, .int x1, .int x2, .int x3] (ax_QI Q)
def L_X9_button_0 (l : Launch) (g : AG) (h : AH) (x0 : Nat) (x1 : Int32) (x2 : Int32) (x3 : Int32)  (Q : Int32 → AH → Prop) : Prop := Wp l g mX9_button 1 21 194 194 194 0 [(0, .ref x0), (1, .int x1), (2, .int x2), (3, .int x3)] [] h (FM g 194 194 (ax_QI Q))
set_option maxRecDepth 100000 in
set_option maxHeartbeats 4000000 in
theorem s_X9_button_0 {l : Launch} {g : AG} {h : AH} {x0 : Nat} {x1 : Int32} {x2 : Int32} {x3 : Int32}  {Q : Int32 → AH → Prop} (hb : (Is 194 x0 8) ∧ ( C_X9_has l g h x0 x1 (fun r4 h3 => ( ((r4 = 0 → (Q (-1) h3)) ∧ (¬ (r4 = 0) → (((x2 < 0 → (Q (-1) h3)) ∧ (¬ (x2 < 0) → ((Is 194 (h3.2.2 x0 2) 24) ∧ ( (vp_in x1 (ax_s (h3.2.2 x0 2)).2) ∧ ( (Is 194 (h3.2.2 (h3.2.2 x0 2) x1.toNatClampNeg) 0) ∧ ( ((x2 < h3.1 (h3.2.2 (h3.2.2 x0 2) x1.toNatClampNeg) 1 → ((Is 194 (h3.2.2 x0 2) 24) ∧ ( (vp_in x1 (ax_s (h3.2.2 x0 2)).2) ∧ ( (Is 194 (h3.2.2 (h3.2.2 x0 2) x1.toNatClampNeg) 0) ∧ ( ∀ v14 : Nat, v14 = (h3.2.2 (h3.2.2 x0 2) x1.toNatClampNeg) → ( ((x3 = 0 → ((Is 194 (h3.2.2 v14 16) 20) ∧ ( (vp_in x2 (ax_s (h3.2.2 v14 16)).2) ∧ ( Q (h3.1 (h3.2.2 v14 16) x2.toNatClampNeg) h3)))) ∧ (¬ x3 = 0 → (((x3 = 1 → ((Is 194 (h3.2.2 v14 17) 3) ∧ ( (Is 194 (h3.2.2 (h3.2.2 v14 17) 0) 20) ∧ ( (vp_in x2 (ax_s (h3.2.2 (h3.2.2 v14 17) 0)).2) ∧ ( Q (h3.1 (h3.2.2 (h3.2.2 v14 17) 0) x2.toNatClampNeg) h3))))) ∧ (¬ x3 = 1 → (((x3 = 2 → ((Is 194 (h3.2.2 v14 18) 4) ∧ ( (Is 194 (h3.2.2 (h3.2.2 v14 18) 0) 20) ∧ ( (vp_in x2 (ax_s (h3.2.2 (h3.2.2 v14 18) 0)).2) ∧ ( Q (h3.1 (h3.2.2 (h3.2.2 v14 18) 0) x2.toNatClampNeg) h3))))) ∧ (¬ x3 = 2 → (Q (-1) h3))))))))))))))) ∧ (¬ (x2 < h3.1 (h3.2.2 (h3.2.2 x0 2) x1.toNatClampNeg) 1) → (Q (-1) h3)))))))))))))))) : L_X9_button_0 l g h x0 x1 x2 x3  Q := by
  obtain ⟨i1, hb⟩ := hb
  refine wp_aload_n 0 dX9_button_0 rfl rfl ?_
  refine wp_iload_n 1 dX9_button_1 rfl rfl ?_
  refine wp_callV (as := [.int x1]) dX9_button_2 cb_X9_has lk_X9_106 im_X9_has se_X9_has rfl (Nat.le_of_ble_eq_true rfl) ⟨by decide, by decide⟩ ⟨Nat.le_refl _, Nat.le_refl _, Nat.le_refl _⟩ i1 rfl (by decide) hb (fun r0 h3 hb => ?_)
  obtain ⟨r4, rfl, hb⟩ := hb
  refine wp_if_eq (tgt := 25) dX9_button_5 (by decide) (fun c5 => ?_) (fun c5 => ?_)
  · have hb := hb.1 c5
    refine wp_iconst (v := (-1)) dX9_button_25 (by decide) ?_
    exact wp_iret rfl dX9_button_26 ⟨_, rfl, hb⟩
  · have hb := hb.2 c5
    refine wp_iload_n 2 dX9_button_8 rfl rfl ?_
    refine wp_if_lt (tgt := 25) dX9_button_9 (by decide) (fun c6 => ?_) (fun c6 => ?_)
    · have hb := hb.1 c6
      refine wp_iconst (v := (-1)) dX9_button_25 (by decide) ?_
      exact wp_iret rfl dX9_button_26 ⟨_, rfl, hb⟩
    · have hb := hb.2 c6
      refine wp_iload_n 2 dX9_button_12 rfl rfl ?_
      refine wp_aload_n 0 dX9_button_13 rfl rfl ?_
      obtain ⟨i7, hb⟩ := hb
      refine wp_getR dX9_button_14 fl_X9_20 i1 (i7.ne (by decide)) ?_
      refine wp_iload_n 1 dX9_button_17 rfl rfl ?_
      obtain ⟨b8, hb⟩ := hb
      obtain ⟨i9, hb⟩ := hb
      refine wp_aaload24 dX9_button_18 i7 b8 (i9.ne (by decide)) ?_
      refine wp_getI dX9_button_19 fl_X9_110 i9 ?_
      refine wp_icmp_lt (tgt := 27) dX9_button_22 (by decide) (fun c10 => ?_) (fun c10 => ?_)
      · have hb := hb.1 c10
        refine wp_aload_n 0 dX9_button_27 rfl rfl ?_
        obtain ⟨i11, hb⟩ := hb
        refine wp_getR dX9_button_28 fl_X9_20 i1 (i11.ne (by decide)) ?_
        refine wp_iload_n 1 dX9_button_31 rfl rfl ?_
        obtain ⟨b12, hb⟩ := hb
        obtain ⟨i13, hb⟩ := hb
        refine wp_aaload24 dX9_button_32 i11 b12 (i13.ne (by decide)) ?_
        refine wp_topr (fun v14 e15 => ?_)
        have hb := hb v14 e15
        have i16 : Is 194 v14 0 := by rw [e15]; exact i13
        refine wp_astore (lv2 := [(4, .ref v14), (0, .ref x0), (1, .int x1), (2, .int x2), (3, .int x3)]) dX9_button_33 (by decide) rfl ?_
        refine wp_iload_n 4 dX9_button_35 rfl rfl ?_
        refine wp_case 0 (fun c17 => ?_) (fun c17 => ?_)
        · have hb := hb.1 c17
          refine wp_tableIn (v := 0) (tgt := 64) dX9_button_36 c17 (by decide) (by decide) rfl (by decide) ?_
          refine wp_aload 0 dX9_button_64 rfl ?_
          obtain ⟨i18, hb⟩ := hb
          refine wp_getR dX9_button_66 fl_X9_125 i16 (i18.ne (by decide)) ?_
          refine wp_iload_n 3 dX9_button_69 rfl rfl ?_
          obtain ⟨b19, hb⟩ := hb
          refine wp_iaload dX9_button_70 i18 b19 ?_
          exact wp_iret rfl dX9_button_71 ⟨_, rfl, hb⟩
        · have hb := hb.2 c17
          refine wp_case 1 (fun c20 => ?_) (fun c20 => ?_)
          · have hb := hb.1 c20
            refine wp_tableIn (v := 1) (tgt := 72) dX9_button_36 c20 (by decide) (by decide) rfl (by decide) ?_
            refine wp_aload 0 dX9_button_72 rfl ?_
            obtain ⟨i21, hb⟩ := hb
            refine wp_getR dX9_button_74 fl_X9_128 i16 (i21.ne (by decide)) ?_
            obtain ⟨i22, hb⟩ := hb
            refine wp_getR dX9_button_77 fl_X9_132 i21 (i22.ne (by decide)) ?_
            refine wp_iload_n 3 dX9_button_80 rfl rfl ?_
            obtain ⟨b23, hb⟩ := hb
            refine wp_iaload dX9_button_81 i22 b23 ?_
            exact wp_iret rfl dX9_button_82 ⟨_, rfl, hb⟩
          · have hb := hb.2 c20
            refine wp_case 2 (fun c24 => ?_) (fun c24 => ?_)
            · have hb := hb.1 c24
              refine wp_tableIn (v := 2) (tgt := 83) dX9_button_36 c24 (by decide) (by decide) rfl (by decide) ?_
              refine wp_aload 0 dX9_button_83 rfl ?_
              obtain ⟨i25, hb⟩ := hb
              refine wp_getR dX9_button_85 fl_X9_137 i16 (i25.ne (by decide)) ?_
              obtain ⟨i26, hb⟩ := hb
              refine wp_getR dX9_button_88 fl_X9_141 i25 (i26.ne (by decide)) ?_
              refine wp_iload_n 3 dX9_button_91 rfl rfl ?_
              obtain ⟨b27, hb⟩ := hb
              refine wp_iaload dX9_button_92 i26 b27 ?_
              exact wp_iret rfl dX9_button_93 ⟨_, rfl, hb⟩
            · have hb := hb.2 c24
              refine wp_tableOut (tgt := 94) dX9_button_36 (by have zc17 := lv_neT (k := 0) (a := 0) c17 rfl; have zc20 := lv_neT (k := 1) (a := 1) c20 rfl; have zc24 := lv_neT (k := 2) (a := 2) c24 rfl; omega) (by decide) ?_
              refine wp_iconst (v := (-1)) dX9_button_94 (by decide) ?_
              exact wp_iret rfl dX9_button_95 ⟨_, rfl, hb⟩
      · have hb := hb.2 c10
        refine wp_iconst (v := (-1)) dX9_button_25 (by decide) ?_
        exact wp_iret rfl dX9_button_26 ⟨_, rfl, hb⟩
theorem c_X9_button {l : Launch} {g : AG} {h : AH} {x0 : Nat} {x1 : Int32} {x2 : Int32} {x3 : Int32}  {Q : Int32 → AH → Prop} (hb : L_X9_button_0 l g h x0 x1 x2 x3  Q) : C_X9_button l g h x0 x1 x2 x3  Q := ax_met rfl rfl (Nat.le_of_ble_eq_true rfl) hb
def C_X3_openOf (l : Launch) (g : AG) (h : AH) (x0 : Int64)  (Q : Int32 → AH → Prop) : Prop := Ct l g mX3_openOf 0 0 194 194 h [.long x0] (ax_QI Q)
def L_X3_openOf_0 (l : Launch) (g : AG) (h : AH) (x0 : Int64)  (Q : Int32 → AH → Prop) : Prop := Wp l g mX3_openOf 0 0 194 194 194 0 [(0, .long x0)] [] h (FM g 194 194 (ax_QI Q))
set_option maxRecDepth 100000 in
set_option maxHeartbeats 4000000 in
theorem s_X3_openOf_0 {l : Launch} {g : AG} {h : AH} {x0 : Int64}  {Q : Int32 → AH → Prop} (hb : Q (((jlushr x0 24).toInt32) &&& 7) h) : L_X3_openOf_0 l g h x0  Q := by
  refine wp_lload_n 0 dX3_openOf_0 rfl rfl ?_
  refine wp_bipush (v := 24) dX3_openOf_1 (by decide) ?_
  refine wp_lushr dX3_openOf_3 ?_
  refine wp_l2i dX3_openOf_4 ?_
  refine wp_bipush (v := 7) dX3_openOf_5 (by decide) ?_
  refine wp_iand dX3_openOf_7 ?_
  exact wp_iret rfl dX3_openOf_8 ⟨_, rfl, hb⟩
theorem c_X3_openOf {l : Launch} {g : AG} {h : AH} {x0 : Int64}  {Q : Int32 → AH → Prop} (hb : L_X3_openOf_0 l g h x0  Q) : C_X3_openOf l g h x0  Q := ax_met rfl rfl (Nat.le_of_ble_eq_true rfl) hb
def C_X3_topOf (l : Launch) (g : AG) (h : AH) (x0 : Int64)  (Q : Int32 → AH → Prop) : Prop := Ct l g mX3_topOf 1 21 194 194 h [.long x0] (ax_QI Q)
def L_X3_topOf_0 (l : Launch) (g : AG) (h : AH) (x0 : Int64)  (Q : Int32 → AH → Prop) : Prop := Wp l g mX3_topOf 1 21 194 194 194 0 [(0, .long x0)] [] h (FM g 194 194 (ax_QI Q))
set_option maxRecDepth 100000 in
set_option maxHeartbeats 4000000 in
theorem s_X3_topOf_0 {l : Launch} {g : AG} {h : AH} {x0 : Int64}  {Q : Int32 → AH → Prop} (hb : C_X3_openOf l g h x0 (fun r3 h2 => ( ((r3 ≤ 0 → (Q (-1) h2)) ∧ (¬ (r3 ≤ 0) → (Q (((jlushr x0 31).toInt32) &&& 7) h2)))))) : L_X3_topOf_0 l g h x0  Q := by
  refine wp_lload_n 0 dX3_topOf_0 rfl rfl ?_
  refine wp_callS (as := [.long x0]) dX3_topOf_1 cb_X3_openOf lk_X3_17 st_X3_openOf rfl (Nat.le_of_ble_eq_true rfl) ⟨by decide, by decide⟩ ⟨Nat.le_refl _, Nat.le_refl _, Nat.le_refl _⟩ hb (fun r0 h2 hb => ?_)
  obtain ⟨r3, rfl, hb⟩ := hb
  refine wp_if_le (tgt := 18) dX3_topOf_4 (by decide) (fun c4 => ?_) (fun c4 => ?_)
  · have hb := hb.1 c4
    refine wp_iconst (v := (-1)) dX3_topOf_18 (by decide) ?_
    exact wp_iret rfl dX3_topOf_19 ⟨_, rfl, hb⟩
  · have hb := hb.2 c4
    refine wp_lload_n 0 dX3_topOf_7 rfl rfl ?_
    refine wp_bipush (v := 31) dX3_topOf_8 (by decide) ?_
    refine wp_lushr dX3_topOf_10 ?_
    refine wp_l2i dX3_topOf_11 ?_
    refine wp_bipush (v := 7) dX3_topOf_12 (by decide) ?_
    refine wp_iand dX3_topOf_14 ?_
    refine wp_goto (tgt := 19) dX3_topOf_15 (by decide) ?_
    exact wp_iret rfl dX3_topOf_19 ⟨_, rfl, hb⟩
theorem c_X3_topOf {l : Launch} {g : AG} {h : AH} {x0 : Int64}  {Q : Int32 → AH → Prop} (hb : L_X3_topOf_0 l g h x0  Q) : C_X3_topOf l g h x0  Q := ax_met rfl rfl (Nat.le_of_ble_eq_true rfl) hb
def C_X3_valueOf (l : Launch) (g : AG) (h : AH) (x0 : Int64) (x2 : Int32)  (Q : Int32 → AH → Prop) : Prop := Ct l g mX3_valueOf 0 0 194 194 h [.long x0, .int x2] (ax_QI Q)
def L_X3_valueOf_0 (l : Launch) (g : AG) (h : AH) (x0 : Int64) (x2 : Int32)  (Q : Int32 → AH → Prop) : Prop := Wp l g mX3_valueOf 0 0 194 194 194 0 [(0, .long x0), (2, .int x2)] [] h (FM g 194 194 (ax_QI Q))
set_option maxRecDepth 100000 in
set_option maxHeartbeats 4000000 in
theorem s_X3_valueOf_0 {l : Launch} {g : AG} {h : AH} {x0 : Int64} {x2 : Int32}  {Q : Int32 → AH → Prop} (hb : Q (((jlushr x0 (4 * x2)).toInt32) &&& 15) h) : L_X3_valueOf_0 l g h x0 x2  Q := by
  refine wp_lload_n 0 dX3_valueOf_0 rfl rfl ?_
  refine wp_iconst (v := 4) dX3_valueOf_1 (by decide) ?_
  refine wp_iload_n 1 dX3_valueOf_2 rfl rfl ?_
  refine wp_imul dX3_valueOf_3 ?_
  refine wp_lushr dX3_valueOf_4 ?_
  refine wp_l2i dX3_valueOf_5 ?_
  refine wp_bipush (v := 15) dX3_valueOf_6 (by decide) ?_
  refine wp_iand dX3_valueOf_8 ?_
  exact wp_iret rfl dX3_valueOf_9 ⟨_, rfl, hb⟩
theorem c_X3_valueOf {l : Launch} {g : AG} {h : AH} {x0 : Int64} {x2 : Int32}  {Q : Int32 → AH → Prop} (hb : L_X3_valueOf_0 l g h x0 x2  Q) : C_X3_valueOf l g h x0 x2  Q := ax_met rfl rfl (Nat.le_of_ble_eq_true rfl) hb
def C_X4_hold (l : Launch) (g : AG) (h : AH) (x0 : Nat) (x1 : Int32) (x2 : Int64)  (Q : Int32 → AH → Prop) : Prop := Ct l g mX4_hold 1 22 194 194 h [.ref x0, .int x1, .long x2] (ax_QI Q)
def L_X4_hold_0 (l : Launch) (g : AG) (h : AH) (x0 : Nat) (x1 : Int32) (x2 : Int64)  (Q : Int32 → AH → Prop) : Prop := Wp l g mX4_hold 1 22 194 194 194 0 [(0, .ref x0), (1, .int x1), (2, .long x2)] [] h (FM g 194 194 (ax_QI Q))
def L_X4_hold_9 (l : Launch) (g : AG) (h : AH) (x0 : Nat) (x1 : Int32) (x2 : Int64) (x4 : Int32) (x5 : Int32)  (Q : Int32 → AH → Prop) : Prop := Wp l g mX4_hold 1 22 194 194 194 9 [(0, .ref x0), (1, .int x1), (2, .long x2), (4, .int x4), (5, .int x5)] [] h (FM g 194 194 (ax_QI Q))
set_option maxRecDepth 100000 in
set_option maxHeartbeats 4000000 in
theorem s_X4_hold_0 {l : Launch} {g : AG} {h : AH} {x0 : Nat} {x1 : Int32} {x2 : Int64}  {Q : Int32 → AH → Prop} (hb : ∀ v1 : Int32, v1 = (x1 * 3) → ( L_X4_hold_9 l g h x0 x1 x2 v1 v1  Q)) : L_X4_hold_0 l g h x0 x1 x2  Q := by
  refine wp_iload_n 1 dX4_hold_0 rfl rfl ?_
  refine wp_iconst (v := 3) dX4_hold_1 (by decide) ?_
  refine wp_imul dX4_hold_2 ?_
  refine wp_topi (fun v1 e2 => ?_)
  have hb := hb v1 e2
  refine wp_istore (lv2 := [(4, .int v1), (0, .ref x0), (1, .int x1), (2, .long x2)]) dX4_hold_3 (by decide) rfl ?_
  refine wp_iload 0 dX4_hold_5 rfl ?_
  refine wp_istore (lv2 := [(5, .int v1), (4, .int v1), (0, .ref x0), (1, .int x1), (2, .long x2)]) dX4_hold_7 (by decide) rfl ?_
  exact wp_sub [2, 3, 4, 1, 0] rfl hb
set_option maxRecDepth 100000 in
set_option maxHeartbeats 4000000 in
theorem s_X4_hold_9 {l : Launch} {g : AG} {h : AH} {x0 : Nat} {x1 : Int32} {x2 : Int64} {x4 : Int32} {x5 : Int32}  {Q : Int32 → AH → Prop} (hb : (Is 194 x0 3) ∧ ( (Is 194 (h.2.2 x0 0) 20) ∧ ( (vp_in x1 (ax_s (h.2.2 x0 0)).2) ∧ ( ((x4 + (h.1 (h.2.2 x0 0) x1.toNatClampNeg) ≤ x5 → (Q 1 h)) ∧ (¬ (x4 + (h.1 (h.2.2 x0 0) x1.toNatClampNeg) ≤ x5) → ((Is 194 (h.2.2 x0 1) 20) ∧ ( (vp_in x5 (ax_s (h.2.2 x0 1)).2) ∧ ( C_X3_valueOf l g h x2 (h.1 (h.2.2 x0 1) x5.toNatClampNeg) (fun r11 h10 => ( (Is 194 (h10.2.2 x0 2) 20) ∧ ( (vp_in x5 (ax_s (h10.2.2 x0 2)).2) ∧ ( ((r11 < h10.1 (h10.2.2 x0 2) x5.toNatClampNeg → (Q 0 h10)) ∧ (¬ (r11 < h10.1 (h10.2.2 x0 2) x5.toNatClampNeg) → ((Is 194 (h10.2.2 x0 3) 20) ∧ ( (vp_in x5 (ax_s (h10.2.2 x0 3)).2) ∧ ( ((r11 ≤ h10.1 (h10.2.2 x0 3) x5.toNatClampNeg → (∀ v18 : Int32, v18 = x5 + (1) → ( L_X4_hold_9 l g h10 x0 x1 x2 x4 v18  Q))) ∧ (¬ (r11 ≤ h10.1 (h10.2.2 x0 3) x5.toNatClampNeg) → (Q 0 h10))))))))))))))))))))) : L_X4_hold_9 l g h x0 x1 x2 x4 x5  Q := by
  refine wp_iload 4 dX4_hold_9 rfl ?_
  refine wp_iload 3 dX4_hold_11 rfl ?_
  obtain ⟨i3, hb⟩ := hb
  refine wp_aload_n 0 dX4_hold_13 rfl rfl ?_
  obtain ⟨i4, hb⟩ := hb
  refine wp_getR dX4_hold_14 fl_X4_9 i3 (i4.ne (by decide)) ?_
  refine wp_iload_n 1 dX4_hold_17 rfl rfl ?_
  obtain ⟨b5, hb⟩ := hb
  refine wp_iaload dX4_hold_18 i4 b5 ?_
  refine wp_iadd dX4_hold_19 ?_
  refine wp_icmp_ge (tgt := 68) dX4_hold_20 (by decide) (fun c6 => ?_) (fun c6 => ?_)
  · have hb := hb.1 c6
    refine wp_iconst (v := 1) dX4_hold_68 (by decide) ?_
    exact wp_zret rfl dX4_hold_69 (Or.inr rfl) ⟨_, rfl, hb⟩
  · have hb := hb.2 c6
    refine wp_lload_n 2 dX4_hold_23 rfl rfl ?_
    refine wp_aload_n 0 dX4_hold_24 rfl rfl ?_
    obtain ⟨i7, hb⟩ := hb
    refine wp_getR dX4_hold_25 fl_X4_15 i3 (i7.ne (by decide)) ?_
    refine wp_iload 4 dX4_hold_28 rfl ?_
    obtain ⟨b8, hb⟩ := hb
    refine wp_iaload dX4_hold_30 i7 b8 ?_
    refine wp_callSN (as := [.long x2, .int (h.1 (h.2.2 x0 1) x5.toNatClampNeg)]) dX4_hold_31 cb_X3_valueOf lk_X4_24 st_X3_valueOf rfl (Nat.le_of_ble_eq_true rfl) ⟨by decide, by decide⟩ ⟨Nat.le_refl _, Nat.le_refl _, Nat.le_refl _⟩ hb (fun r0 h10 hb => ?_)
    obtain ⟨r11, rfl, hb⟩ := hb
    refine wp_istore (lv2 := [(6, .int r11), (0, .ref x0), (1, .int x1), (2, .long x2), (4, .int x4), (5, .int x5)]) dX4_hold_34 (by decide) rfl ?_
    refine wp_iload 0 dX4_hold_36 rfl ?_
    refine wp_aload_n 1 dX4_hold_38 rfl rfl ?_
    obtain ⟨i12, hb⟩ := hb
    refine wp_getR dX4_hold_39 fl_X4_18 i3 (i12.ne (by decide)) ?_
    refine wp_iload 5 dX4_hold_42 rfl ?_
    obtain ⟨b13, hb⟩ := hb
    refine wp_iaload dX4_hold_44 i12 b13 ?_
    refine wp_icmp_lt (tgt := 60) dX4_hold_45 (by decide) (fun c14 => ?_) (fun c14 => ?_)
    · have hb := hb.1 c14
      refine wp_iconst (v := 0) dX4_hold_60 (by decide) ?_
      exact wp_zret rfl dX4_hold_61 (Or.inl rfl) ⟨_, rfl, hb⟩
    · have hb := hb.2 c14
      refine wp_iload 0 dX4_hold_48 rfl ?_
      refine wp_aload_n 1 dX4_hold_50 rfl rfl ?_
      obtain ⟨i15, hb⟩ := hb
      refine wp_getR dX4_hold_51 fl_X4_21 i3 (i15.ne (by decide)) ?_
      refine wp_iload 5 dX4_hold_54 rfl ?_
      obtain ⟨b16, hb⟩ := hb
      refine wp_iaload dX4_hold_56 i15 b16 ?_
      refine wp_icmp_le (tgt := 62) dX4_hold_57 (by decide) (fun c17 => ?_) (fun c17 => ?_)
      · have hb := hb.1 c17
        obtain ⟨v18, e19⟩ : ∃ y : Int32, y = x5 + (1) := ⟨_, rfl⟩
        have hb := hb v18 e19
        refine wp_iinc (v := v18) (lv2 := [(5, .int v18), (6, .int r11), (0, .ref x0), (1, .int x1), (2, .long x2), (4, .int x4)]) 5 dX4_hold_62 rfl (by rw [e19]; rfl) (by decide) rfl ?_
        refine wp_goto (tgt := 9) dX4_hold_65 (by decide) ?_
        exact wp_sub [2, 3, 4, 5, 0] rfl hb
      · have hb := hb.2 c17
        refine wp_iconst (v := 0) dX4_hold_60 (by decide) ?_
        exact wp_zret rfl dX4_hold_61 (Or.inl rfl) ⟨_, rfl, hb⟩
theorem c_X4_hold {l : Launch} {g : AG} {h : AH} {x0 : Nat} {x1 : Int32} {x2 : Int64}  {Q : Int32 → AH → Prop} (hb : L_X4_hold_0 l g h x0 x1 x2  Q) : C_X4_hold l g h x0 x1 x2  Q := ax_met rfl rfl (Nat.le_of_ble_eq_true rfl) hb
def C_X0_possible (l : Launch) (g : AG) (h : AH) (x0 : Nat) (x1 : Int64) (x3 : Int32)  (Q : Int32 → AH → Prop) : Prop := Ct l g mX0_possible 2 48 194 194 h [.ref x0, .long x1, .int x3] (ax_QI Q)
def L_X0_possible_0 (l : Launch) (g : AG) (h : AH) (x0 : Nat) (x1 : Int64) (x3 : Int32)  (Q : Int32 → AH → Prop) : Prop := Wp l g mX0_possible 2 48 194 194 194 0 [(0, .ref x0), (1, .long x1), (3, .int x3)] [] h (FM g 194 194 (ax_QI Q))
set_option maxRecDepth 100000 in
set_option maxHeartbeats 4000000 in
theorem s_X0_possible_0 {l : Launch} {g : AG} {h : AH} {x0 : Nat} {x1 : Int64} {x3 : Int32}  {Q : Int32 → AH → Prop} (hb : ((¬ x3 = 26 → (C_X3_topOf l g h x1 (fun r4 h3 => ( ((¬ r4 = (-1) → (((¬ x3 = 24 → (((¬ x3 = 25 → ((Is 194 x0 0) ∧ ( (Is 194 (h3.2.2 x0 14) 20) ∧ ( (vp_in r4 (ax_s (h3.2.2 x0 14)).2) ∧ ( ((x3 < h3.1 (h3.2.2 x0 14) r4.toNatClampNeg → (Q 0 h3)) ∧ (¬ (x3 < h3.1 (h3.2.2 x0 14) r4.toNatClampNeg) → ((Is 194 (h3.2.2 x0 15) 20) ∧ ( (vp_in r4 (ax_s (h3.2.2 x0 15)).2) ∧ ( ((h3.1 (h3.2.2 x0 15) r4.toNatClampNeg ≤ x3 → (Q 0 h3)) ∧ (¬ (h3.1 (h3.2.2 x0 15) r4.toNatClampNeg ≤ x3) → ((Is 194 (h3.2.2 x0 17) 3) ∧ ( C_X4_hold l g h3 (h3.2.2 x0 17) x3 x1 (fun r18 h17 => ( ((r18 = 0 → (Q 0 h17)) ∧ (¬ (r18 = 0) → (Q 1 h17))))))))))))))))))) ∧ (x3 = 25 → (C_X3_openOf l g h3 x1 (fun r22 h21 => ( ((r22 ≤ 1 → (Q 0 h21)) ∧ (¬ (r22 ≤ 1) → (Q 1 h21)))))))))) ∧ (x3 = 24 → (Q 1 h3))))) ∧ (r4 = (-1) → (Q 0 h3))))))) ∧ (x3 = 26 → (Q 1 h)))) : L_X0_possible_0 l g h x0 x1 x3  Q := by
  refine wp_iload_n 2 dX0_possible_0 rfl rfl ?_
  refine wp_bipush (v := 26) dX0_possible_1 (by decide) ?_
  refine wp_icmp_ne (tgt := 8) dX0_possible_3 (by decide) (fun c1 => ?_) (fun c1 => ?_)
  · have hb := hb.1 c1
    refine wp_lload_n 1 dX0_possible_8 rfl rfl ?_
    refine wp_callSN (as := [.long x1]) dX0_possible_9 cb_X3_topOf lk_X0_102 st_X3_topOf rfl (Nat.le_of_ble_eq_true rfl) ⟨by decide, by decide⟩ ⟨Nat.le_refl _, Nat.le_refl _, Nat.le_refl _⟩ hb (fun r0 h3 hb => ?_)
    obtain ⟨r4, rfl, hb⟩ := hb
    refine wp_istore (lv2 := [(4, .int r4), (0, .ref x0), (1, .long x1), (3, .int x3)]) dX0_possible_12 (by decide) rfl ?_
    refine wp_iload 0 dX0_possible_14 rfl ?_
    refine wp_iconst (v := (-1)) dX0_possible_16 (by decide) ?_
    refine wp_icmp_ne (tgt := 22) dX0_possible_17 (by decide) (fun c5 => ?_) (fun c5 => ?_)
    · have hb := hb.1 c5
      refine wp_iload_n 3 dX0_possible_22 rfl rfl ?_
      refine wp_bipush (v := 24) dX0_possible_23 (by decide) ?_
      refine wp_icmp_ne (tgt := 30) dX0_possible_25 (by decide) (fun c6 => ?_) (fun c6 => ?_)
      · have hb := hb.1 c6
        refine wp_iload_n 3 dX0_possible_30 rfl rfl ?_
        refine wp_bipush (v := 25) dX0_possible_31 (by decide) ?_
        refine wp_icmp_ne (tgt := 50) dX0_possible_33 (by decide) (fun c7 => ?_) (fun c7 => ?_)
        · have hb := hb.1 c7
          refine wp_iload_n 3 dX0_possible_50 rfl rfl ?_
          obtain ⟨i8, hb⟩ := hb
          refine wp_aload_n 1 dX0_possible_51 rfl rfl ?_
          obtain ⟨i9, hb⟩ := hb
          refine wp_getR dX0_possible_52 fl_X0_57 i8 (i9.ne (by decide)) ?_
          refine wp_iload 0 dX0_possible_55 rfl ?_
          obtain ⟨b10, hb⟩ := hb
          refine wp_iaload dX0_possible_57 i9 b10 ?_
          refine wp_icmp_lt (tgt := 88) dX0_possible_58 (by decide) (fun c11 => ?_) (fun c11 => ?_)
          · have hb := hb.1 c11
            refine wp_iconst (v := 0) dX0_possible_88 (by decide) ?_
            exact wp_zret rfl dX0_possible_89 (Or.inl rfl) ⟨_, rfl, hb⟩
          · have hb := hb.2 c11
            refine wp_iload_n 3 dX0_possible_61 rfl rfl ?_
            refine wp_aload_n 1 dX0_possible_62 rfl rfl ?_
            obtain ⟨i12, hb⟩ := hb
            refine wp_getR dX0_possible_63 fl_X0_60 i8 (i12.ne (by decide)) ?_
            refine wp_iload 0 dX0_possible_66 rfl ?_
            obtain ⟨b13, hb⟩ := hb
            refine wp_iaload dX0_possible_68 i12 b13 ?_
            refine wp_icmp_ge (tgt := 88) dX0_possible_69 (by decide) (fun c14 => ?_) (fun c14 => ?_)
            · have hb := hb.1 c14
              refine wp_iconst (v := 0) dX0_possible_88 (by decide) ?_
              exact wp_zret rfl dX0_possible_89 (Or.inl rfl) ⟨_, rfl, hb⟩
            · have hb := hb.2 c14
              refine wp_aload_n 1 dX0_possible_72 rfl rfl ?_
              obtain ⟨i15, hb⟩ := hb
              refine wp_getR dX0_possible_73 fl_X0_69 i8 (i15.ne (by decide)) ?_
              refine wp_iload_n 3 dX0_possible_76 rfl rfl ?_
              refine wp_lload_n 2 dX0_possible_77 rfl rfl ?_
              refine wp_callVN (as := [.int x3, .long x1]) dX0_possible_78 cb_X4_hold lk_X0_109 im_X4_hold se_X4_hold rfl (Nat.le_of_ble_eq_true rfl) ⟨by decide, by decide⟩ ⟨Nat.le_refl _, Nat.le_refl _, Nat.le_refl _⟩ i15 rfl (by decide) hb (fun r0 h17 hb => ?_)
              obtain ⟨r18, rfl, hb⟩ := hb
              refine wp_if_eq (tgt := 88) dX0_possible_81 (by decide) (fun c19 => ?_) (fun c19 => ?_)
              · have hb := hb.1 c19
                refine wp_iconst (v := 0) dX0_possible_88 (by decide) ?_
                exact wp_zret rfl dX0_possible_89 (Or.inl rfl) ⟨_, rfl, hb⟩
              · have hb := hb.2 c19
                refine wp_iconst (v := 1) dX0_possible_84 (by decide) ?_
                refine wp_goto (tgt := 89) dX0_possible_85 (by decide) ?_
                exact wp_zret rfl dX0_possible_89 (Or.inr rfl) ⟨_, rfl, hb⟩
        · have hb := hb.2 c7
          refine wp_lload_n 2 dX0_possible_36 rfl rfl ?_
          refine wp_callSN (as := [.long x1]) dX0_possible_37 cb_X3_openOf lk_X0_106 st_X3_openOf rfl (Nat.le_of_ble_eq_true rfl) ⟨by decide, by decide⟩ ⟨Nat.le_refl _, Nat.le_refl _, Nat.le_refl _⟩ hb (fun r0 h21 hb => ?_)
          obtain ⟨r22, rfl, hb⟩ := hb
          refine wp_iconst (v := 1) dX0_possible_40 (by decide) ?_
          refine wp_icmp_le (tgt := 48) dX0_possible_41 (by decide) (fun c23 => ?_) (fun c23 => ?_)
          · have hb := hb.1 c23
            refine wp_iconst (v := 0) dX0_possible_48 (by decide) ?_
            exact wp_zret rfl dX0_possible_49 (Or.inl rfl) ⟨_, rfl, hb⟩
          · have hb := hb.2 c23
            refine wp_iconst (v := 1) dX0_possible_44 (by decide) ?_
            refine wp_goto (tgt := 49) dX0_possible_45 (by decide) ?_
            exact wp_zret rfl dX0_possible_49 (Or.inr rfl) ⟨_, rfl, hb⟩
      · have hb := hb.2 c6
        refine wp_iconst (v := 1) dX0_possible_28 (by decide) ?_
        exact wp_zret rfl dX0_possible_29 (Or.inr rfl) ⟨_, rfl, hb⟩
    · have hb := hb.2 c5
      refine wp_iconst (v := 0) dX0_possible_20 (by decide) ?_
      exact wp_zret rfl dX0_possible_21 (Or.inl rfl) ⟨_, rfl, hb⟩
  · have hb := hb.2 c1
    refine wp_iconst (v := 1) dX0_possible_6 (by decide) ?_
    exact wp_zret rfl dX0_possible_7 (Or.inr rfl) ⟨_, rfl, hb⟩
theorem c_X0_possible {l : Launch} {g : AG} {h : AH} {x0 : Nat} {x1 : Int64} {x3 : Int32}  {Q : Int32 → AH → Prop} (hb : L_X0_possible_0 l g h x0 x1 x3  Q) : C_X0_possible l g h x0 x1 x3  Q := ax_met rfl rfl (Nat.le_of_ble_eq_true rfl) hb
def C_X3_closed (l : Launch) (g : AG) (h : AH) (x0 : Int64)  (Q : Int64 → AH → Prop) : Prop := Ct l g mX3_closed 1 24 194 194 h [.long x0] (ax_QL Q)
def L_X3_closed_0 (l : Launch) (g : AG) (h : AH) (x0 : Int64)  (Q : Int64 → AH → Prop) : Prop := Wp l g mX3_closed 1 24 194 194 194 0 [(0, .long x0)] [] h (FM g 194 194 (ax_QL Q))
set_option maxRecDepth 100000 in
set_option maxHeartbeats 4000000 in
theorem s_X3_closed_0 {l : Launch} {g : AG} {h : AH} {x0 : Int64}  {Q : Int64 → AH → Prop} (hb : C_X3_openOf l g h x0 (fun r3 h2 => ( ((2 ≤ r3 → (C_X3_packed l g h2 (jlushr x0 34) (r3 - 1) x0 (fun r7 h6 => ( Q r7 h6)))) ∧ (¬ (2 ≤ r3) → (Q x0 h2)))))) : L_X3_closed_0 l g h x0  Q := by
  refine wp_lload_n 0 dX3_closed_0 rfl rfl ?_
  refine wp_callS (as := [.long x0]) dX3_closed_1 cb_X3_openOf lk_X3_17 st_X3_openOf rfl (Nat.le_of_ble_eq_true rfl) ⟨by decide, by decide⟩ ⟨Nat.le_refl _, Nat.le_refl _, Nat.le_refl _⟩ hb (fun r0 h2 hb => ?_)
  obtain ⟨r3, rfl, hb⟩ := hb
  refine wp_istore_n (lv2 := [(2, .int r3), (0, .long x0)]) dX3_closed_4 rfl (by decide) rfl ?_
  refine wp_iload_n 0 dX3_closed_5 rfl rfl ?_
  refine wp_iconst (v := 2) dX3_closed_6 (by decide) ?_
  refine wp_icmp_ge (tgt := 14) dX3_closed_7 (by decide) (fun c4 => ?_) (fun c4 => ?_)
  · have hb := hb.1 c4
    refine wp_lload_n 1 dX3_closed_14 rfl rfl ?_
    refine wp_bipush (v := 34) dX3_closed_15 (by decide) ?_
    refine wp_lushr dX3_closed_17 ?_
    refine wp_iload_n 0 dX3_closed_18 rfl rfl ?_
    refine wp_iconst (v := 1) dX3_closed_19 (by decide) ?_
    refine wp_isub dX3_closed_20 ?_
    refine wp_lload_n 1 dX3_closed_21 rfl rfl ?_
    refine wp_callS (as := [.long (jlushr x0 34), .int (r3 - 1), .long x0]) dX3_closed_22 cb_X3_packed lk_X3_13 st_X3_packed rfl (Nat.le_of_ble_eq_true rfl) ⟨by decide, by decide⟩ ⟨Nat.le_refl _, Nat.le_refl _, Nat.le_refl _⟩ hb (fun r0 h6 hb => ?_)
    obtain ⟨r7, rfl, hb⟩ := hb
    exact wp_lret rfl dX3_closed_25 ⟨_, rfl, hb⟩
  · have hb := hb.2 c4
    refine wp_lload_n 1 dX3_closed_10 rfl rfl ?_
    refine wp_goto (tgt := 25) dX3_closed_11 (by decide) ?_
    exact wp_lret rfl dX3_closed_25 ⟨_, rfl, hb⟩
theorem c_X3_closed {l : Launch} {g : AG} {h : AH} {x0 : Int64}  {Q : Int64 → AH → Prop} (hb : L_X3_closed_0 l g h x0  Q) : C_X3_closed l g h x0  Q := ax_met rfl rfl (Nat.le_of_ble_eq_true rfl) hb
def C_X3_opened (l : Launch) (g : AG) (h : AH) (x0 : Int64) (x2 : Int32)  (Q : Int64 → AH → Prop) : Prop := Ct l g mX3_opened 1 24 194 194 h [.long x0, .int x2] (ax_QL Q)
def L_X3_opened_0 (l : Launch) (g : AG) (h : AH) (x0 : Int64) (x2 : Int32)  (Q : Int64 → AH → Prop) : Prop := Wp l g mX3_opened 1 24 194 194 194 0 [(0, .long x0), (2, .int x2)] [] h (FM g 194 194 (ax_QL Q))
set_option maxRecDepth 100000 in
set_option maxHeartbeats 4000000 in
theorem s_X3_opened_0 {l : Launch} {g : AG} {h : AH} {x0 : Int64} {x2 : Int32}  {Q : Int64 → AH → Prop} (hb : C_X3_openOf l g h x0 (fun r3 h2 => ( ((r3 < 5 → (∀ v5 : Int64, v5 = ((jlshl (jlushr x0 27) 7) ||| (jlshl x2.toInt64 4)) → ( C_X3_packed l g h2 v5 (r3 + 1) x0 (fun r9 h8 => ( Q r9 h8))))) ∧ (¬ (r3 < 5) → (Q x0 h2)))))) : L_X3_opened_0 l g h x0 x2  Q := by
  refine wp_lload_n 0 dX3_opened_0 rfl rfl ?_
  refine wp_callS (as := [.long x0]) dX3_opened_1 cb_X3_openOf lk_X3_17 st_X3_openOf rfl (Nat.le_of_ble_eq_true rfl) ⟨by decide, by decide⟩ ⟨Nat.le_refl _, Nat.le_refl _, Nat.le_refl _⟩ hb (fun r0 h2 hb => ?_)
  obtain ⟨r3, rfl, hb⟩ := hb
  refine wp_istore_n (lv2 := [(3, .int r3), (0, .long x0), (2, .int x2)]) dX3_opened_4 rfl (by decide) rfl ?_
  refine wp_iload_n 0 dX3_opened_5 rfl rfl ?_
  refine wp_iconst (v := 5) dX3_opened_6 (by decide) ?_
  refine wp_icmp_lt (tgt := 12) dX3_opened_7 (by decide) (fun c4 => ?_) (fun c4 => ?_)
  · have hb := hb.1 c4
    refine wp_lload_n 1 dX3_opened_12 rfl rfl ?_
    refine wp_bipush (v := 27) dX3_opened_13 (by decide) ?_
    refine wp_lushr dX3_opened_15 ?_
    refine wp_bipush (v := 7) dX3_opened_16 (by decide) ?_
    refine wp_lshl dX3_opened_18 ?_
    refine wp_iload_n 2 dX3_opened_19 rfl rfl ?_
    refine wp_i2l dX3_opened_20 ?_
    refine wp_iconst (v := 4) dX3_opened_21 (by decide) ?_
    refine wp_lshl dX3_opened_22 ?_
    refine wp_lor dX3_opened_23 ?_
    refine wp_topl (fun v5 e6 => ?_)
    have hb := hb v5 e6
    refine wp_iload_n 0 dX3_opened_24 rfl rfl ?_
    refine wp_iconst (v := 1) dX3_opened_25 (by decide) ?_
    refine wp_iadd dX3_opened_26 ?_
    refine wp_lload_n 1 dX3_opened_27 rfl rfl ?_
    refine wp_callS (as := [.long v5, .int (r3 + 1), .long x0]) dX3_opened_28 cb_X3_packed lk_X3_13 st_X3_packed rfl (Nat.le_of_ble_eq_true rfl) ⟨by decide, by decide⟩ ⟨Nat.le_refl _, Nat.le_refl _, Nat.le_refl _⟩ hb (fun r0 h8 hb => ?_)
    obtain ⟨r9, rfl, hb⟩ := hb
    exact wp_lret rfl dX3_opened_31 ⟨_, rfl, hb⟩
  · have hb := hb.2 c4
    refine wp_lload_n 1 dX3_opened_10 rfl rfl ?_
    exact wp_lret rfl dX3_opened_11 ⟨_, rfl, hb⟩
theorem c_X3_opened {l : Launch} {g : AG} {h : AH} {x0 : Int64} {x2 : Int32}  {Q : Int64 → AH → Prop} (hb : L_X3_opened_0 l g h x0 x2  Q) : C_X3_opened l g h x0 x2  Q := ax_met rfl rfl (Nat.le_of_ble_eq_true rfl) hb
def C_X0_sumIn (l : Launch) (g : AG) (h : AH) (x0 : Nat) (x1 : Int32) (x2 : Int32)  (Q : Int32 → AH → Prop) : Prop := Ct l g mX0_sumIn 0 0 194 194 h [.ref x0, .int x1, .int x2] (ax_QI Q)
def L_X0_sumIn_0 (l : Launch) (g : AG) (h : AH) (x0 : Nat) (x1 : Int32) (x2 : Int32)  (Q : Int32 → AH → Prop) : Prop := Wp l g mX0_sumIn 0 0 194 194 194 0 [(0, .ref x0), (1, .int x1), (2, .int x2)] [] h (FM g 194 194 (ax_QI Q))
set_option maxRecDepth 100000 in
set_option maxHeartbeats 4000000 in
theorem s_X0_sumIn_0 {l : Launch} {g : AG} {h : AH} {x0 : Nat} {x1 : Int32} {x2 : Int32}  {Q : Int32 → AH → Prop} (hb : (Is 194 x0 0) ∧ ( (Is 194 (h.2.2 x0 10) 20) ∧ ( (vp_in x1 (ax_s (h.2.2 x0 10)).2) ∧ ( ∀ v4 : Int32, v4 = ((h.1 (h.2.2 x0 10) x1.toNatClampNeg) + 1) → ( ((v4 ≤ 0 → (Q 0 h)) ∧ (¬ (v4 ≤ 0) → ((¬ v4 = 0) ∧ ( Q (jirem x2 v4) h))))))))) : L_X0_sumIn_0 l g h x0 x1 x2  Q := by
  obtain ⟨i1, hb⟩ := hb
  refine wp_aload_n 0 dX0_sumIn_0 rfl rfl ?_
  obtain ⟨i2, hb⟩ := hb
  refine wp_getR dX0_sumIn_1 fl_X0_44 i1 (i2.ne (by decide)) ?_
  refine wp_iload_n 1 dX0_sumIn_4 rfl rfl ?_
  obtain ⟨b3, hb⟩ := hb
  refine wp_iaload dX0_sumIn_5 i2 b3 ?_
  refine wp_iconst (v := 1) dX0_sumIn_6 (by decide) ?_
  refine wp_iadd dX0_sumIn_7 ?_
  refine wp_topi (fun v4 e5 => ?_)
  have hb := hb v4 e5
  refine wp_istore_n (lv2 := [(3, .int v4), (0, .ref x0), (1, .int x1), (2, .int x2)]) dX0_sumIn_8 rfl (by decide) rfl ?_
  refine wp_iload_n 0 dX0_sumIn_9 rfl rfl ?_
  refine wp_if_le (tgt := 19) dX0_sumIn_10 (by decide) (fun c6 => ?_) (fun c6 => ?_)
  · have hb := hb.1 c6
    refine wp_iconst (v := 0) dX0_sumIn_19 (by decide) ?_
    exact wp_iret rfl dX0_sumIn_20 ⟨_, rfl, hb⟩
  · have hb := hb.2 c6
    refine wp_iload_n 3 dX0_sumIn_13 rfl rfl ?_
    refine wp_iload_n 0 dX0_sumIn_14 rfl rfl ?_
    obtain ⟨q7, hb⟩ := hb
    refine wp_irem dX0_sumIn_15 q7 ?_
    refine wp_goto (tgt := 20) dX0_sumIn_16 (by decide) ?_
    exact wp_iret rfl dX0_sumIn_20 ⟨_, rfl, hb⟩
theorem c_X0_sumIn {l : Launch} {g : AG} {h : AH} {x0 : Nat} {x1 : Int32} {x2 : Int32}  {Q : Int32 → AH → Prop} (hb : L_X0_sumIn_0 l g h x0 x1 x2  Q) : C_X0_sumIn l g h x0 x1 x2  Q := ax_met rfl rfl (Nat.le_of_ble_eq_true rfl) hb
def C_X3_faulted (l : Launch) (g : AG) (h : AH) (x0 : Int32) (x1 : Int64)  (Q : Int64 → AH → Prop) : Prop := Ct l g mX3_faulted 1 24 194 194 h [.int x0, .long x1] (ax_QL Q)
def L_X3_faulted_0 (l : Launch) (g : AG) (h : AH) (x0 : Int32) (x1 : Int64)  (Q : Int64 → AH → Prop) : Prop := Wp l g mX3_faulted 1 24 194 194 194 0 [(0, .int x0), (1, .long x1)] [] h (FM g 194 194 (ax_QL Q))
set_option maxRecDepth 100000 in
set_option maxHeartbeats 4000000 in
theorem s_X3_faulted_0 {l : Launch} {g : AG} {h : AH} {x0 : Int32} {x1 : Int64}  {Q : Int64 → AH → Prop} (hb : C_X3_packed l g h x0.toInt64 0 x1 (fun r3 h2 => ( Q r3 h2))) : L_X3_faulted_0 l g h x0 x1  Q := by
  refine wp_iload_n 0 dX3_faulted_0 rfl rfl ?_
  refine wp_i2l dX3_faulted_1 ?_
  refine wp_iconst (v := 0) dX3_faulted_2 (by decide) ?_
  refine wp_lload_n 1 dX3_faulted_3 rfl rfl ?_
  refine wp_callS (as := [.long x0.toInt64, .int 0, .long x1]) dX3_faulted_4 cb_X3_packed lk_X3_13 st_X3_packed rfl (Nat.le_of_ble_eq_true rfl) ⟨by decide, by decide⟩ ⟨Nat.le_refl _, Nat.le_refl _, Nat.le_refl _⟩ hb (fun r0 h2 hb => ?_)
  obtain ⟨r3, rfl, hb⟩ := hb
  exact wp_lret rfl dX3_faulted_7 ⟨_, rfl, hb⟩
theorem c_X3_faulted {l : Launch} {g : AG} {h : AH} {x0 : Int32} {x1 : Int64}  {Q : Int64 → AH → Prop} (hb : L_X3_faulted_0 l g h x0 x1  Q) : C_X3_faulted l g h x0 x1  Q := ax_met rfl rfl (Nat.le_of_ble_eq_true rfl) hb
def C_X0_afterDeeds (l : Launch) (g : AG) (h : AH) (x0 : Nat) (x1 : Int64) (x3 : Int32)  (Q : Int64 → AH → Prop) : Prop := Ct l g mX0_afterDeeds 2 47 194 194 h [.ref x0, .long x1, .int x3] (ax_QL Q)
def L_X0_afterDeeds_0 (l : Launch) (g : AG) (h : AH) (x0 : Nat) (x1 : Int64) (x3 : Int32)  (Q : Int64 → AH → Prop) : Prop := Wp l g mX0_afterDeeds 2 47 194 194 194 0 [(0, .ref x0), (1, .long x1), (3, .int x3)] [] h (FM g 194 194 (ax_QL Q))
def L_X0_afterDeeds_24 (l : Launch) (g : AG) (h : AH) (x0 : Nat) (x3 : Int32) (x4 : Int64) (x6 : Int32) (x7 : Int32)  (Q : Int64 → AH → Prop) : Prop := Wp l g mX0_afterDeeds 2 47 194 194 194 24 [(0, .ref x0), (3, .int x3), (4, .long x4), (6, .int x6), (7, .int x7)] [] h (FM g 194 194 (ax_QL Q))
set_option maxRecDepth 100000 in
set_option maxHeartbeats 4000000 in
theorem s_X0_afterDeeds_0 {l : Launch} {g : AG} {h : AH} {x0 : Nat} {x1 : Int64} {x3 : Int32}  {Q : Int64 → AH → Prop} (hb : ((x3 < 0 → (Q x1 h)) ∧ (¬ (x3 < 0) → (((x3 < 32 → (∀ v3 : Int32, v3 = (x3 * 4) → ( L_X0_afterDeeds_24 l g h x0 x3 x1 v3 v3  Q))) ∧ (¬ (x3 < 32) → (Q x1 h))))))) : L_X0_afterDeeds_0 l g h x0 x1 x3  Q := by
  refine wp_iload_n 2 dX0_afterDeeds_0 rfl rfl ?_
  refine wp_if_lt (tgt := 10) dX0_afterDeeds_1 (by decide) (fun c1 => ?_) (fun c1 => ?_)
  · have hb := hb.1 c1
    refine wp_lload_n 1 dX0_afterDeeds_10 rfl rfl ?_
    exact wp_lret rfl dX0_afterDeeds_11 ⟨_, rfl, hb⟩
  · have hb := hb.2 c1
    refine wp_iload_n 2 dX0_afterDeeds_4 rfl rfl ?_
    refine wp_bipush (v := 32) dX0_afterDeeds_5 (by decide) ?_
    refine wp_icmp_lt (tgt := 12) dX0_afterDeeds_7 (by decide) (fun c2 => ?_) (fun c2 => ?_)
    · have hb := hb.1 c2
      refine wp_lload_n 1 dX0_afterDeeds_12 rfl rfl ?_
      refine wp_lstore (lv2 := [(4, .long x1), (0, .ref x0), (1, .long x1), (3, .int x3)]) dX0_afterDeeds_13 (by decide) rfl ?_
      refine wp_iload_n 3 dX0_afterDeeds_15 rfl rfl ?_
      refine wp_iconst (v := 4) dX0_afterDeeds_16 (by decide) ?_
      refine wp_imul dX0_afterDeeds_17 ?_
      refine wp_topi (fun v3 e4 => ?_)
      have hb := hb v3 e4
      refine wp_istore (lv2 := [(6, .int v3), (4, .long x1), (0, .ref x0), (1, .long x1), (3, .int x3)]) dX0_afterDeeds_18 (by decide) rfl ?_
      refine wp_iload 0 dX0_afterDeeds_20 rfl ?_
      refine wp_istore (lv2 := [(7, .int v3), (6, .int v3), (4, .long x1), (0, .ref x0), (1, .long x1), (3, .int x3)]) dX0_afterDeeds_22 (by decide) rfl ?_
      exact wp_sub [3, 5, 2, 1, 0] rfl hb
    · have hb := hb.2 c2
      refine wp_lload_n 1 dX0_afterDeeds_10 rfl rfl ?_
      exact wp_lret rfl dX0_afterDeeds_11 ⟨_, rfl, hb⟩
set_option maxRecDepth 100000 in
set_option maxHeartbeats 4000000 in
theorem s_X0_afterDeeds_24 {l : Launch} {g : AG} {h : AH} {x0 : Nat} {x3 : Int32} {x4 : Int64} {x6 : Int32} {x7 : Int32}  {Q : Int64 → AH → Prop} (hb : (Is 194 x0 0) ∧ ( (Is 194 (h.2.2 x0 18) 4) ∧ ( (Is 194 (h.2.2 (h.2.2 x0 18) 0) 20) ∧ ( (vp_in x3 (ax_s (h.2.2 (h.2.2 x0 18) 0)).2) ∧ ( ∀ v9 : Int32, v9 = (x6 + (h.1 (h.2.2 (h.2.2 x0 18) 0) x3.toNatClampNeg)) → ( ((v9 ≤ x7 → (Q x4 h)) ∧ (¬ (v9 ≤ x7) → ((Is 194 (h.2.2 x0 18) 4) ∧ ( (Is 194 (h.2.2 (h.2.2 x0 18) 2) 20) ∧ ( (vp_in x7 (ax_s (h.2.2 (h.2.2 x0 18) 2)).2) ∧ ( ∀ v15 : Int32, v15 = (h.1 (h.2.2 (h.2.2 x0 18) 2) x7.toNatClampNeg) → ( (Is 194 (h.2.2 x0 18) 4) ∧ ( (Is 194 (h.2.2 (h.2.2 x0 18) 3) 20) ∧ ( (vp_in x7 (ax_s (h.2.2 (h.2.2 x0 18) 3)).2) ∧ ( ∀ v20 : Int32, v20 = (h.1 (h.2.2 (h.2.2 x0 18) 3) x7.toNatClampNeg) → ( (Is 194 (h.2.2 x0 18) 4) ∧ ( (Is 194 (h.2.2 (h.2.2 x0 18) 1) 20) ∧ ( (vp_in x7 (ax_s (h.2.2 (h.2.2 x0 18) 1)).2) ∧ ( ((h.1 (h.2.2 (h.2.2 x0 18) 1) x7.toNatClampNeg = 0 → (C_X3_opened l g h x4 v15 (fun r28 h27 => ( ∀ v29 : Int32, v29 = x7 + (1) → ( L_X0_afterDeeds_24 l g h27 x0 x3 r28 x6 v29  Q))))) ∧ (¬ h.1 (h.2.2 (h.2.2 x0 18) 1) x7.toNatClampNeg = 0 → (((h.1 (h.2.2 (h.2.2 x0 18) 1) x7.toNatClampNeg = 1 → (C_X3_closed l g h x4 (fun r34 h33 => ( ∀ v35 : Int32, v35 = x7 + (1) → ( L_X0_afterDeeds_24 l g h33 x0 x3 r34 x6 v35  Q))))) ∧ (¬ h.1 (h.2.2 (h.2.2 x0 18) 1) x7.toNatClampNeg = 1 → (((h.1 (h.2.2 (h.2.2 x0 18) 1) x7.toNatClampNeg = 2 → (C_X3_withValue l g h x4 v15 v20 (fun r40 h39 => ( ∀ v41 : Int32, v41 = x7 + (1) → ( L_X0_afterDeeds_24 l g h39 x0 x3 r40 x6 v41  Q))))) ∧ (¬ h.1 (h.2.2 (h.2.2 x0 18) 1) x7.toNatClampNeg = 2 → (((h.1 (h.2.2 (h.2.2 x0 18) 1) x7.toNatClampNeg = 3 → (C_X3_valueOf l g h x4 v15 (fun r46 h45 => ( C_X0_sumIn l g h45 x0 v15 (r46 + v20) (fun r49 h48 => ( C_X3_withValue l g h48 x4 v15 r49 (fun r52 h51 => ( ∀ v53 : Int32, v53 = x7 + (1) → ( L_X0_afterDeeds_24 l g h51 x0 x3 r52 x6 v53  Q))))))))) ∧ (¬ h.1 (h.2.2 (h.2.2 x0 18) 1) x7.toNatClampNeg = 3 → (C_X3_faulted l g h v20 (x4 &&& (h.2.1 x0 6)) (fun r57 h56 => ( Q r57 h56)))))))))))))))))))))))))))))))))) : L_X0_afterDeeds_24 l g h x0 x3 x4 x6 x7  Q := by
  refine wp_iload 4 dX0_afterDeeds_24 rfl ?_
  refine wp_iload 3 dX0_afterDeeds_26 rfl ?_
  obtain ⟨i5, hb⟩ := hb
  refine wp_aload_n 0 dX0_afterDeeds_28 rfl rfl ?_
  obtain ⟨i6, hb⟩ := hb
  refine wp_getR dX0_afterDeeds_29 fl_X0_76 i5 (i6.ne (by decide)) ?_
  obtain ⟨i7, hb⟩ := hb
  refine wp_getR dX0_afterDeeds_32 fl_X0_86 i6 (i7.ne (by decide)) ?_
  refine wp_iload_n 1 dX0_afterDeeds_35 rfl rfl ?_
  obtain ⟨b8, hb⟩ := hb
  refine wp_iaload dX0_afterDeeds_36 i7 b8 ?_
  refine wp_iadd dX0_afterDeeds_37 ?_
  refine wp_topi (fun v9 e10 => ?_)
  have hb := hb v9 e10
  refine wp_icmp_ge (tgt := 187) dX0_afterDeeds_38 (by decide) (fun c11 => ?_) (fun c11 => ?_)
  · have hb := hb.1 c11
    refine wp_lload 2 dX0_afterDeeds_187 rfl ?_
    exact wp_lret rfl dX0_afterDeeds_189 ⟨_, rfl, hb⟩
  · have hb := hb.2 c11
    refine wp_aload_n 0 dX0_afterDeeds_41 rfl rfl ?_
    obtain ⟨i12, hb⟩ := hb
    refine wp_getR dX0_afterDeeds_42 fl_X0_76 i5 (i12.ne (by decide)) ?_
    obtain ⟨i13, hb⟩ := hb
    refine wp_getR dX0_afterDeeds_45 fl_X0_137 i12 (i13.ne (by decide)) ?_
    refine wp_iload 4 dX0_afterDeeds_48 rfl ?_
    obtain ⟨b14, hb⟩ := hb
    refine wp_iaload dX0_afterDeeds_50 i13 b14 ?_
    refine wp_topi (fun v15 e16 => ?_)
    have hb := hb v15 e16
    refine wp_istore (lv2 := [(8, .int v15), (0, .ref x0), (3, .int x3), (4, .long x4), (6, .int x6), (7, .int x7)]) dX0_afterDeeds_51 (by decide) rfl ?_
    refine wp_aload_n 1 dX0_afterDeeds_53 rfl rfl ?_
    obtain ⟨i17, hb⟩ := hb
    refine wp_getR dX0_afterDeeds_54 fl_X0_76 i5 (i17.ne (by decide)) ?_
    obtain ⟨i18, hb⟩ := hb
    refine wp_getR dX0_afterDeeds_57 fl_X0_140 i17 (i18.ne (by decide)) ?_
    refine wp_iload 5 dX0_afterDeeds_60 rfl ?_
    obtain ⟨b19, hb⟩ := hb
    refine wp_iaload dX0_afterDeeds_62 i18 b19 ?_
    refine wp_topi (fun v20 e21 => ?_)
    have hb := hb v20 e21
    refine wp_istore (lv2 := [(9, .int v20), (8, .int v15), (0, .ref x0), (3, .int x3), (4, .long x4), (6, .int x6), (7, .int x7)]) dX0_afterDeeds_63 (by decide) rfl ?_
    refine wp_aload_n 2 dX0_afterDeeds_65 rfl rfl ?_
    obtain ⟨i22, hb⟩ := hb
    refine wp_getR dX0_afterDeeds_66 fl_X0_76 i5 (i22.ne (by decide)) ?_
    obtain ⟨i23, hb⟩ := hb
    refine wp_getR dX0_afterDeeds_69 fl_X0_143 i22 (i23.ne (by decide)) ?_
    refine wp_iload 6 dX0_afterDeeds_72 rfl ?_
    obtain ⟨b24, hb⟩ := hb
    refine wp_iaload dX0_afterDeeds_74 i23 b24 ?_
    refine wp_case 0 (fun c25 => ?_) (fun c25 => ?_)
    · have hb := hb.1 c25
      refine wp_tableIn (v := 0) (tgt := 104) dX0_afterDeeds_75 c25 (by decide) (by decide) rfl (by decide) ?_
      refine wp_lload 4 dX0_afterDeeds_104 rfl ?_
      refine wp_iload 1 dX0_afterDeeds_106 rfl ?_
      refine wp_callSN (as := [.long x4, .int v15]) dX0_afterDeeds_108 cb_X3_opened lk_X0_146 st_X3_opened rfl (Nat.le_of_ble_eq_true rfl) ⟨by decide, by decide⟩ ⟨Nat.le_refl _, Nat.le_refl _, Nat.le_refl _⟩ hb (fun r0 h27 hb => ?_)
      obtain ⟨r28, rfl, hb⟩ := hb
      refine wp_lstore (lv2 := [(4, .long r28), (9, .int v20), (8, .int v15), (0, .ref x0), (3, .int x3), (6, .int x6), (7, .int x7)]) dX0_afterDeeds_111 (by decide) rfl ?_
      refine wp_goto (tgt := 181) dX0_afterDeeds_113 (by decide) ?_
      obtain ⟨v29, e30⟩ : ∃ y : Int32, y = x7 + (1) := ⟨_, rfl⟩
      have hb := hb v29 e30
      refine wp_iinc (v := v29) (lv2 := [(7, .int v29), (4, .long r28), (9, .int v20), (8, .int v15), (0, .ref x0), (3, .int x3), (6, .int x6)]) 6 dX0_afterDeeds_181 rfl (by rw [e30]; rfl) (by decide) rfl ?_
      refine wp_goto (tgt := 24) dX0_afterDeeds_184 (by decide) ?_
      exact wp_sub [4, 5, 1, 6, 0] rfl hb
    · have hb := hb.2 c25
      refine wp_case 1 (fun c31 => ?_) (fun c31 => ?_)
      · have hb := hb.1 c31
        refine wp_tableIn (v := 1) (tgt := 116) dX0_afterDeeds_75 c31 (by decide) (by decide) rfl (by decide) ?_
        refine wp_lload 4 dX0_afterDeeds_116 rfl ?_
        refine wp_callSN (as := [.long x4]) dX0_afterDeeds_118 cb_X3_closed lk_X0_117 st_X3_closed rfl (Nat.le_of_ble_eq_true rfl) ⟨by decide, by decide⟩ ⟨Nat.le_refl _, Nat.le_refl _, Nat.le_refl _⟩ hb (fun r0 h33 hb => ?_)
        obtain ⟨r34, rfl, hb⟩ := hb
        refine wp_lstore (lv2 := [(4, .long r34), (9, .int v20), (8, .int v15), (0, .ref x0), (3, .int x3), (6, .int x6), (7, .int x7)]) dX0_afterDeeds_121 (by decide) rfl ?_
        refine wp_goto (tgt := 181) dX0_afterDeeds_123 (by decide) ?_
        obtain ⟨v35, e36⟩ : ∃ y : Int32, y = x7 + (1) := ⟨_, rfl⟩
        have hb := hb v35 e36
        refine wp_iinc (v := v35) (lv2 := [(7, .int v35), (4, .long r34), (9, .int v20), (8, .int v15), (0, .ref x0), (3, .int x3), (6, .int x6)]) 6 dX0_afterDeeds_181 rfl (by rw [e36]; rfl) (by decide) rfl ?_
        refine wp_goto (tgt := 24) dX0_afterDeeds_184 (by decide) ?_
        exact wp_sub [4, 5, 1, 6, 0] rfl hb
      · have hb := hb.2 c31
        refine wp_case 2 (fun c37 => ?_) (fun c37 => ?_)
        · have hb := hb.1 c37
          refine wp_tableIn (v := 2) (tgt := 126) dX0_afterDeeds_75 c37 (by decide) (by decide) rfl (by decide) ?_
          refine wp_lload 4 dX0_afterDeeds_126 rfl ?_
          refine wp_iload 1 dX0_afterDeeds_128 rfl ?_
          refine wp_iload 0 dX0_afterDeeds_130 rfl ?_
          refine wp_callSN (as := [.long x4, .int v15, .int v20]) dX0_afterDeeds_132 cb_X3_withValue lk_X0_80 st_X3_withValue rfl (Nat.le_of_ble_eq_true rfl) ⟨by decide, by decide⟩ ⟨Nat.le_refl _, Nat.le_refl _, Nat.le_refl _⟩ hb (fun r0 h39 hb => ?_)
          obtain ⟨r40, rfl, hb⟩ := hb
          refine wp_lstore (lv2 := [(4, .long r40), (9, .int v20), (8, .int v15), (0, .ref x0), (3, .int x3), (6, .int x6), (7, .int x7)]) dX0_afterDeeds_135 (by decide) rfl ?_
          refine wp_goto (tgt := 181) dX0_afterDeeds_137 (by decide) ?_
          obtain ⟨v41, e42⟩ : ∃ y : Int32, y = x7 + (1) := ⟨_, rfl⟩
          have hb := hb v41 e42
          refine wp_iinc (v := v41) (lv2 := [(7, .int v41), (4, .long r40), (9, .int v20), (8, .int v15), (0, .ref x0), (3, .int x3), (6, .int x6)]) 6 dX0_afterDeeds_181 rfl (by rw [e42]; rfl) (by decide) rfl ?_
          refine wp_goto (tgt := 24) dX0_afterDeeds_184 (by decide) ?_
          exact wp_sub [4, 5, 1, 6, 0] rfl hb
        · have hb := hb.2 c37
          refine wp_case 3 (fun c43 => ?_) (fun c43 => ?_)
          · have hb := hb.1 c43
            refine wp_tableIn (v := 3) (tgt := 140) dX0_afterDeeds_75 c43 (by decide) (by decide) rfl (by decide) ?_
            refine wp_lload 4 dX0_afterDeeds_140 rfl ?_
            refine wp_iload 1 dX0_afterDeeds_142 rfl ?_
            refine wp_aload_n 2 dX0_afterDeeds_144 rfl rfl ?_
            refine wp_iload 1 dX0_afterDeeds_145 rfl ?_
            refine wp_lload 4 dX0_afterDeeds_147 rfl ?_
            refine wp_iload 1 dX0_afterDeeds_149 rfl ?_
            refine wp_callSN (as := [.long x4, .int v15]) dX0_afterDeeds_151 cb_X3_valueOf lk_X0_149 st_X3_valueOf rfl (Nat.le_of_ble_eq_true rfl) ⟨by decide, by decide⟩ ⟨Nat.le_refl _, Nat.le_refl _, Nat.le_refl _⟩ hb (fun r0 h45 hb => ?_)
            obtain ⟨r46, rfl, hb⟩ := hb
            refine wp_iload 0 dX0_afterDeeds_154 rfl ?_
            refine wp_iadd dX0_afterDeeds_156 ?_
            refine wp_callV (as := [.int v15, .int (r46 + v20)]) dX0_afterDeeds_157 cb_X0_sumIn lk_X0_153 im_X0_sumIn se_X0_sumIn rfl (Nat.le_of_ble_eq_true rfl) ⟨by decide, by decide⟩ ⟨Nat.le_refl _, Nat.le_refl _, Nat.le_refl _⟩ i5 rfl (by decide) hb (fun r0 h48 hb => ?_)
            obtain ⟨r49, rfl, hb⟩ := hb
            refine wp_callSN (as := [.long x4, .int v15, .int r49]) dX0_afterDeeds_160 cb_X3_withValue lk_X0_80 st_X3_withValue rfl (Nat.le_of_ble_eq_true rfl) ⟨by decide, by decide⟩ ⟨Nat.le_refl _, Nat.le_refl _, Nat.le_refl _⟩ hb (fun r0 h51 hb => ?_)
            obtain ⟨r52, rfl, hb⟩ := hb
            refine wp_lstore (lv2 := [(4, .long r52), (9, .int v20), (8, .int v15), (0, .ref x0), (3, .int x3), (6, .int x6), (7, .int x7)]) dX0_afterDeeds_163 (by decide) rfl ?_
            refine wp_goto (tgt := 181) dX0_afterDeeds_165 (by decide) ?_
            obtain ⟨v53, e54⟩ : ∃ y : Int32, y = x7 + (1) := ⟨_, rfl⟩
            have hb := hb v53 e54
            refine wp_iinc (v := v53) (lv2 := [(7, .int v53), (4, .long r52), (9, .int v20), (8, .int v15), (0, .ref x0), (3, .int x3), (6, .int x6)]) 6 dX0_afterDeeds_181 rfl (by rw [e54]; rfl) (by decide) rfl ?_
            refine wp_goto (tgt := 24) dX0_afterDeeds_184 (by decide) ?_
            exact wp_sub [4, 5, 1, 6, 0] rfl hb
          · have hb := hb.2 c43
            refine wp_tableOut (tgt := 168) dX0_afterDeeds_75 (by have zc25 := lv_neT (k := 0) (a := 0) c25 rfl; have zc31 := lv_neT (k := 1) (a := 1) c31 rfl; have zc37 := lv_neT (k := 2) (a := 2) c37 rfl; have zc43 := lv_neT (k := 3) (a := 3) c43 rfl; omega) (by decide) ?_
            refine wp_iload 0 dX0_afterDeeds_168 rfl ?_
            refine wp_lload 4 dX0_afterDeeds_170 rfl ?_
            refine wp_aload_n 2 dX0_afterDeeds_172 rfl rfl ?_
            refine wp_getL dX0_afterDeeds_173 fl_X0_30 i5 ?_
            refine wp_land dX0_afterDeeds_176 ?_
            refine wp_callSN (as := [.int v20, .long (x4 &&& (h.2.1 x0 6))]) dX0_afterDeeds_177 cb_X3_faulted lk_X0_157 st_X3_faulted rfl (Nat.le_of_ble_eq_true rfl) ⟨by decide, by decide⟩ ⟨Nat.le_refl _, Nat.le_refl _, Nat.le_refl _⟩ hb (fun r0 h56 hb => ?_)
            obtain ⟨r57, rfl, hb⟩ := hb
            exact wp_lret rfl dX0_afterDeeds_180 ⟨_, rfl, hb⟩
theorem c_X0_afterDeeds {l : Launch} {g : AG} {h : AH} {x0 : Nat} {x1 : Int64} {x3 : Int32}  {Q : Int64 → AH → Prop} (hb : L_X0_afterDeeds_0 l g h x0 x1 x3  Q) : C_X0_afterDeeds l g h x0 x1 x3  Q := ax_met rfl rfl (Nat.le_of_ble_eq_true rfl) hb
