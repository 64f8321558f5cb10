def C_X9_var (l : Launch) (g : AG) (h : AH) (x0 : Nat) (x1 : Int32) (x2 : Int32)  (Q : Int32 → AH → Prop) : Prop := Ct l g mX9_var 1 22 194 194 h [.ref x0, .int x1, .int x2] (ax_QI Q)
def L_X9_var_0 (l : Launch) (g : AG) (h : AH) (x0 : Nat) (x1 : Int32) (x2 : Int32)  (Q : Int32 → AH → Prop) : Prop := Wp l g mX9_var 1 22 194 194 194 0 [(0, .ref x0), (1, .int x1), (2, .int x2)] [] h (FM g 194 194 (ax_QI Q))
set_option maxRecDepth 100000 in
set_option maxHeartbeats 4000000 in
theorem s_X9_var_0 {l : Launch} {g : AG} {h : AH} {x0 : Nat} {x1 : Int32} {x2 : Int32}  {Q : Int32 → AH → Prop} (hb : (Is 194 x0 8) ∧ ( C_X9_has l g h x0 x1 (fun r4 h3 => ( ((r4 = 0 → (Q (-1) h3)) ∧ (¬ (r4 = 0) → (((x2 < 0 → (Q (-1) h3)) ∧ (¬ (x2 < 0) → ((Is 194 (h3.2.2 x0 2) 24) ∧ ( (vp_in x1 (ax_s (h3.2.2 x0 2)).2) ∧ ( (Is 194 (h3.2.2 (h3.2.2 x0 2) x1.toNatClampNeg) 0) ∧ ( ((x2 < h3.1 (h3.2.2 (h3.2.2 x0 2) x1.toNatClampNeg) 2 → ((Is 194 (h3.2.2 x0 5) 21) ∧ ( (vp_in x1 (ax_s (h3.2.2 x0 5)).2) ∧ ( C_X3_valueOf l g h3 (h3.2.1 (h3.2.2 x0 5) x1.toNatClampNeg) x2 (fun r15 h14 => ( Q r15 h14)))))) ∧ (¬ (x2 < h3.1 (h3.2.2 (h3.2.2 x0 2) x1.toNatClampNeg) 2) → (Q (-1) h3)))))))))))))))) : L_X9_var_0 l g h x0 x1 x2  Q := by
  obtain ⟨i1, hb⟩ := hb
  refine wp_aload_n 0 dX9_var_0 rfl rfl ?_
  refine wp_iload_n 1 dX9_var_1 rfl rfl ?_
  refine wp_callV (as := [.int x1]) dX9_var_2 cb_X9_has lk_X9_106 im_X9_has se_X9_has rfl (Nat.le_of_ble_eq_true rfl) ⟨by decide, by decide⟩ ⟨Nat.le_refl _, Nat.le_refl _, Nat.le_refl _⟩ i1 rfl (by decide) hb (fun r0 h3 hb => ?_)
  obtain ⟨r4, rfl, hb⟩ := hb
  refine wp_if_eq (tgt := 25) dX9_var_5 (by decide) (fun c5 => ?_) (fun c5 => ?_)
  · have hb := hb.1 c5
    refine wp_iconst (v := (-1)) dX9_var_25 (by decide) ?_
    exact wp_iret rfl dX9_var_26 ⟨_, rfl, hb⟩
  · have hb := hb.2 c5
    refine wp_iload_n 2 dX9_var_8 rfl rfl ?_
    refine wp_if_lt (tgt := 25) dX9_var_9 (by decide) (fun c6 => ?_) (fun c6 => ?_)
    · have hb := hb.1 c6
      refine wp_iconst (v := (-1)) dX9_var_25 (by decide) ?_
      exact wp_iret rfl dX9_var_26 ⟨_, rfl, hb⟩
    · have hb := hb.2 c6
      refine wp_iload_n 2 dX9_var_12 rfl rfl ?_
      refine wp_aload_n 0 dX9_var_13 rfl rfl ?_
      obtain ⟨i7, hb⟩ := hb
      refine wp_getR dX9_var_14 fl_X9_20 i1 (i7.ne (by decide)) ?_
      refine wp_iload_n 1 dX9_var_17 rfl rfl ?_
      obtain ⟨b8, hb⟩ := hb
      obtain ⟨i9, hb⟩ := hb
      refine wp_aaload24 dX9_var_18 i7 b8 (i9.ne (by decide)) ?_
      refine wp_getI dX9_var_19 fl_X9_113 i9 ?_
      refine wp_icmp_lt (tgt := 27) dX9_var_22 (by decide) (fun c10 => ?_) (fun c10 => ?_)
      · have hb := hb.1 c10
        refine wp_aload_n 0 dX9_var_27 rfl rfl ?_
        obtain ⟨i11, hb⟩ := hb
        refine wp_getR dX9_var_28 fl_X9_37 i1 (i11.ne (by decide)) ?_
        refine wp_iload_n 1 dX9_var_31 rfl rfl ?_
        obtain ⟨b12, hb⟩ := hb
        refine wp_laload dX9_var_32 i11 b12 ?_
        refine wp_iload_n 2 dX9_var_33 rfl rfl ?_
        refine wp_callSN (as := [.long (h3.2.1 (h3.2.2 x0 5) x1.toNatClampNeg), .int x2]) dX9_var_34 cb_X3_valueOf lk_X9_170 st_X3_valueOf rfl (Nat.le_of_ble_eq_true rfl) ⟨by decide, by decide⟩ ⟨Nat.le_refl _, Nat.le_refl _, Nat.le_refl _⟩ hb (fun r0 h14 hb => ?_)
        obtain ⟨r15, rfl, hb⟩ := hb
        exact wp_iret rfl dX9_var_37 ⟨_, rfl, hb⟩
      · have hb := hb.2 c10
        refine wp_iconst (v := (-1)) dX9_var_25 (by decide) ?_
        exact wp_iret rfl dX9_var_26 ⟨_, rfl, hb⟩
theorem c_X9_var {l : Launch} {g : AG} {h : AH} {x0 : Nat} {x1 : Int32} {x2 : Int32}  {Q : Int32 → AH → Prop} (hb : L_X9_var_0 l g h x0 x1 x2  Q) : C_X9_var l g h x0 x1 x2  Q := ax_met rfl (Nat.le_of_ble_eq_true rfl) hb
def C_X9_can (l : Launch) (g : AG) (h : AH) (x0 : Nat) (x1 : Int32) (x2 : Int32)  (Q : Int32 → AH → Prop) : Prop := Ct l g mX9_can 3 72 194 194 h [.ref x0, .int x1, .int x2] (ax_QI Q)
def L_X9_can_0 (l : Launch) (g : AG) (h : AH) (x0 : Nat) (x1 : Int32) (x2 : Int32)  (Q : Int32 → AH → Prop) : Prop := Wp l g mX9_can 3 72 194 194 194 0 [(0, .ref x0), (1, .int x1), (2, .int x2)] [] h (FM g 194 194 (ax_QI Q))
set_option maxRecDepth 100000 in
set_option maxHeartbeats 4000000 in
theorem s_X9_can_0 {l : Launch} {g : AG} {h : AH} {x0 : Nat} {x1 : Int32} {x2 : Int32}  {Q : Int32 → AH → Prop} (hb : (Is 194 x0 8) ∧ ( C_X9_has l g h x0 x1 (fun r4 h3 => ( ((r4 = 0 → (Q (-1) h3)) ∧ (¬ (r4 = 0) → (((x2 < 0 → (Q (-1) h3)) ∧ (¬ (x2 < 0) → (((x2 < 27 → ((Is 194 (h3.2.2 x0 2) 24) ∧ ( (vp_in x1 (ax_s (h3.2.2 x0 2)).2) ∧ ( (Is 194 (h3.2.2 (h3.2.2 x0 2) x1.toNatClampNeg) 0) ∧ ( (Is 194 (h3.2.2 x0 5) 21) ∧ ( (vp_in x1 (ax_s (h3.2.2 x0 5)).2) ∧ ( C_X0_possible l g h3 (h3.2.2 (h3.2.2 x0 2) x1.toNatClampNeg) (h3.2.1 (h3.2.2 x0 5) x1.toNatClampNeg) x2 (fun r15 h14 => ( ((r15 = 0 → (Q 0 h14)) ∧ (¬ (r15 = 0) → (Q 1 h14)))))))))))) ∧ (¬ (x2 < 27) → (Q (-1) h3))))))))))))) : L_X9_can_0 l g h x0 x1 x2  Q := by
  obtain ⟨i1, hb⟩ := hb
  refine wp_aload_n 0 dX9_can_0 rfl rfl ?_
  refine wp_iload_n 1 dX9_can_1 rfl rfl ?_
  refine wp_callV (as := [.int x1]) dX9_can_2 cb_X9_has lk_X9_106 im_X9_has se_X9_has rfl (Nat.le_of_ble_eq_true rfl) ⟨by decide, by decide⟩ ⟨Nat.le_refl _, Nat.le_refl _, Nat.le_refl _⟩ i1 rfl (by decide) hb (fun r0 h3 hb => ?_)
  obtain ⟨r4, rfl, hb⟩ := hb
  refine wp_if_eq (tgt := 18) dX9_can_5 (by decide) (fun c5 => ?_) (fun c5 => ?_)
  · have hb := hb.1 c5
    refine wp_iconst (v := (-1)) dX9_can_18 (by decide) ?_
    exact wp_iret rfl dX9_can_19 ⟨_, rfl, hb⟩
  · have hb := hb.2 c5
    refine wp_iload_n 2 dX9_can_8 rfl rfl ?_
    refine wp_if_lt (tgt := 18) dX9_can_9 (by decide) (fun c6 => ?_) (fun c6 => ?_)
    · have hb := hb.1 c6
      refine wp_iconst (v := (-1)) dX9_can_18 (by decide) ?_
      exact wp_iret rfl dX9_can_19 ⟨_, rfl, hb⟩
    · have hb := hb.2 c6
      refine wp_iload_n 2 dX9_can_12 rfl rfl ?_
      refine wp_bipush (v := 27) dX9_can_13 (by decide) ?_
      refine wp_icmp_lt (tgt := 20) dX9_can_15 (by decide) (fun c7 => ?_) (fun c7 => ?_)
      · have hb := hb.1 c7
        refine wp_aload_n 0 dX9_can_20 rfl rfl ?_
        obtain ⟨i8, hb⟩ := hb
        refine wp_getR dX9_can_21 fl_X9_20 i1 (i8.ne (by decide)) ?_
        refine wp_iload_n 1 dX9_can_24 rfl rfl ?_
        obtain ⟨b9, hb⟩ := hb
        obtain ⟨i10, hb⟩ := hb
        refine wp_aaload24 dX9_can_25 i8 b9 (i10.ne (by decide)) ?_
        refine wp_aload_n 0 dX9_can_26 rfl rfl ?_
        obtain ⟨i11, hb⟩ := hb
        refine wp_getR dX9_can_27 fl_X9_37 i1 (i11.ne (by decide)) ?_
        refine wp_iload_n 1 dX9_can_30 rfl rfl ?_
        obtain ⟨b12, hb⟩ := hb
        refine wp_laload dX9_can_31 i11 b12 ?_
        refine wp_iload_n 2 dX9_can_32 rfl rfl ?_
        refine wp_callVN (as := [.long (h3.2.1 (h3.2.2 x0 5) x1.toNatClampNeg), .int x2]) dX9_can_33 cb_X0_possible lk_X9_144 im_X0_possible se_X0_possible rfl (Nat.le_of_ble_eq_true rfl) ⟨by decide, by decide⟩ ⟨Nat.le_refl _, Nat.le_refl _, Nat.le_refl _⟩ i10 rfl (by decide) hb (fun r0 h14 hb => ?_)
        obtain ⟨r15, rfl, hb⟩ := hb
        refine wp_if_eq (tgt := 43) dX9_can_36 (by decide) (fun c16 => ?_) (fun c16 => ?_)
        · have hb := hb.1 c16
          refine wp_iconst (v := 0) dX9_can_43 (by decide) ?_
          exact wp_iret rfl dX9_can_44 ⟨_, rfl, hb⟩
        · have hb := hb.2 c16
          refine wp_iconst (v := 1) dX9_can_39 (by decide) ?_
          refine wp_goto (tgt := 44) dX9_can_40 (by decide) ?_
          exact wp_iret rfl dX9_can_44 ⟨_, rfl, hb⟩
      · have hb := hb.2 c7
        refine wp_iconst (v := (-1)) dX9_can_18 (by decide) ?_
        exact wp_iret rfl dX9_can_19 ⟨_, rfl, hb⟩
theorem c_X9_can {l : Launch} {g : AG} {h : AH} {x0 : Nat} {x1 : Int32} {x2 : Int32}  {Q : Int32 → AH → Prop} (hb : L_X9_can_0 l g h x0 x1 x2  Q) : C_X9_can l g h x0 x1 x2  Q := ax_met rfl (Nat.le_of_ble_eq_true rfl) hb
def C_X9_begin (l : Launch) (g : AG) (h : AH) (x0 : Nat) (x1 : Int32)  (Q : Int32 → AH → Prop) : Prop := Ct l g mX9_begin 3 66 194 194 h [.ref x0, .int x1] (ax_QI Q)
def L_X9_begin_0 (l : Launch) (g : AG) (h : AH) (x0 : Nat) (x1 : Int32)  (Q : Int32 → AH → Prop) : Prop := Wp l g mX9_begin 3 66 194 194 194 0 [(0, .ref x0), (1, .int x1)] [] h (FM g 194 194 (ax_QI Q))
set_option maxRecDepth 100000 in
set_option maxHeartbeats 4000000 in
theorem s_X9_begin_0 {l : Launch} {g : AG} {h : AH} {x0 : Nat} {x1 : Int32}  {Q : Int32 → AH → Prop} (hb : (Is 194 x0 8) ∧ ( C_X9_has l g h x0 x1 (fun r4 h3 => ( ((¬ r4 = 0 → ((Is 194 (h3.2.2 x0 5) 21) ∧ ( (Is 194 (h3.2.2 x0 2) 24) ∧ ( (vp_in x1 (ax_s (h3.2.2 x0 2)).2) ∧ ( (Is 194 (h3.2.2 (h3.2.2 x0 2) x1.toNatClampNeg) 0) ∧ ( C_X0_beginning l g h3 (h3.2.2 (h3.2.2 x0 2) x1.toNatClampNeg) (fun r12 h11 => ( (vp_in x1 (ax_s (h3.2.2 x0 5)).2) ∧ ( ∀ h14 : AH, h14 = ax_setL h11 (h3.2.2 x0 5) x1.toNatClampNeg r12 → ( ∀ h16 : AH, h16 = ax_setI h14 x0 12 0 → ( Q 1 h16))))))))))) ∧ (r4 = 0 → (∀ h18 : AH, h18 = ax_setI h3 x0 12 1 → ( Q 0 h18)))))))) : L_X9_begin_0 l g h x0 x1  Q := by
  obtain ⟨i1, hb⟩ := hb
  refine wp_aload_n 0 dX9_begin_0 rfl rfl ?_
  refine wp_iload_n 1 dX9_begin_1 rfl rfl ?_
  refine wp_callV (as := [.int x1]) dX9_begin_2 cb_X9_has lk_X9_106 im_X9_has se_X9_has rfl (Nat.le_of_ble_eq_true rfl) ⟨by decide, by decide⟩ ⟨Nat.le_refl _, Nat.le_refl _, Nat.le_refl _⟩ i1 rfl (by decide) hb (fun r0 h3 hb => ?_)
  obtain ⟨r4, rfl, hb⟩ := hb
  refine wp_if_ne (tgt := 15) dX9_begin_5 (by decide) (fun c5 => ?_) (fun c5 => ?_)
  · have hb := hb.1 c5
    refine wp_aload_n 0 dX9_begin_15 rfl rfl ?_
    obtain ⟨i6, hb⟩ := hb
    refine wp_getR dX9_begin_16 fl_X9_37 i1 (i6.ne (by decide)) ?_
    refine wp_iload_n 1 dX9_begin_19 rfl rfl ?_
    refine wp_aload_n 0 dX9_begin_20 rfl rfl ?_
    obtain ⟨i7, hb⟩ := hb
    refine wp_getR dX9_begin_21 fl_X9_20 i1 (i7.ne (by decide)) ?_
    refine wp_iload_n 1 dX9_begin_24 rfl rfl ?_
    obtain ⟨b8, hb⟩ := hb
    obtain ⟨i9, hb⟩ := hb
    refine wp_aaload24 dX9_begin_25 i7 b8 (i9.ne (by decide)) ?_
    refine wp_callVN (as := []) dX9_begin_26 cb_X0_beginning lk_X9_84 im_X0_beginning se_X0_beginning rfl (Nat.le_of_ble_eq_true rfl) ⟨by decide, by decide⟩ ⟨Nat.le_refl _, Nat.le_refl _, Nat.le_refl _⟩ i9 rfl (by decide) hb (fun r0 h11 hb => ?_)
    obtain ⟨r12, rfl, hb⟩ := hb
    obtain ⟨b13, hb⟩ := hb
    refine wp_lastore dX9_begin_29 i6 b13 ?_
    refine wp_topH (fun h14 e15 => ?_)
    have hb := hb h14 e15
    refine wp_aload_n 0 dX9_begin_30 rfl rfl ?_
    refine wp_iconst (v := 0) dX9_begin_31 (by decide) ?_
    refine wp_putI dX9_begin_32 fl_X9_69 (Or.inl rfl) i1 ?_
    refine wp_topH (fun h16 e17 => ?_)
    have hb := hb h16 e17
    refine wp_iconst (v := 1) dX9_begin_35 (by decide) ?_
    exact wp_zret rfl dX9_begin_36 (Or.inr rfl) ⟨_, rfl, hb⟩
  · have hb := hb.2 c5
    refine wp_aload_n 0 dX9_begin_8 rfl rfl ?_
    refine wp_iconst (v := 1) dX9_begin_9 (by decide) ?_
    refine wp_putI dX9_begin_10 fl_X9_69 (Or.inl rfl) i1 ?_
    refine wp_topH (fun h18 e19 => ?_)
    have hb := hb h18 e19
    refine wp_iconst (v := 0) dX9_begin_13 (by decide) ?_
    exact wp_zret rfl dX9_begin_14 (Or.inl rfl) ⟨_, rfl, hb⟩
theorem c_X9_begin {l : Launch} {g : AG} {h : AH} {x0 : Nat} {x1 : Int32}  {Q : Int32 → AH → Prop} (hb : L_X9_begin_0 l g h x0 x1  Q) : C_X9_begin l g h x0 x1  Q := ax_met rfl (Nat.le_of_ble_eq_true rfl) hb
def C_J7_fill_53178 (l : Launch) (g : AG) (h : AH) (x0 : Nat) (x1 : Int32)  (Q : AH → Prop) : Prop := Ct l g mJ7_fill_53178 0 0 194 194 h [.ref x0, .int x1] (ax_QV Q)
def L_J7_fill_53178_0 (l : Launch) (g : AG) (h : AH) (x0 : Nat) (x1 : Int32)  (Q : AH → Prop) : Prop := Wp l g mJ7_fill_53178 0 0 194 194 194 0 [(0, .ref x0), (1, .int x1)] [] h (FM g 194 194 (ax_QV Q))
def L_J7_fill_53178_5 (l : Launch) (g : AG) (h : AH) (x0 : Nat) (x1 : Int32) (x2 : Int32) (x3 : Int32)  (Q : AH → Prop) : Prop := Wp l g mJ7_fill_53178 0 0 194 194 194 5 [(0, .ref x0), (1, .int x1), (2, .int x2), (3, .int x3)] [] h (FM g 194 194 (ax_QV Q))
set_option maxRecDepth 100000 in
set_option maxHeartbeats 4000000 in
theorem s_J7_fill_53178_0 {l : Launch} {g : AG} {h : AH} {x0 : Nat} {x1 : Int32}  {Q : AH → Prop} (hb : (Is 194 x0 20) ∧ ( ∀ v2 : Int32, v2 = (Int32.ofNat (ax_s x0).2) → ( L_J7_fill_53178_5 l g h x0 x1 0 v2  Q))) : L_J7_fill_53178_0 l g h x0 x1  Q := by
  refine wp_iconst (v := 0) dJ7_fill_53178_0 (by decide) ?_
  refine wp_istore_n (lv2 := [(2, .int 0), (0, .ref x0), (1, .int x1)]) dJ7_fill_53178_1 rfl (by decide) rfl ?_
  obtain ⟨i1, hb⟩ := hb
  refine wp_aload_n 1 dJ7_fill_53178_2 rfl rfl ?_
  refine wp_alen dJ7_fill_53178_3 i1 (by decide) rfl ?_
  refine wp_topi (fun v2 e3 => ?_)
  have hb := hb v2 e3
  refine wp_istore_n (lv2 := [(3, .int v2), (2, .int 0), (0, .ref x0), (1, .int x1)]) dJ7_fill_53178_4 rfl (by decide) rfl ?_
  exact wp_sub [2, 3, 1, 0] rfl hb
set_option maxRecDepth 100000 in
set_option maxHeartbeats 4000000 in
theorem s_J7_fill_53178_5 {l : Launch} {g : AG} {h : AH} {x0 : Nat} {x1 : Int32} {x2 : Int32} {x3 : Int32}  {Q : AH → Prop} (hb : ((x3 ≤ x2 → (Q h)) ∧ (¬ (x3 ≤ x2) → ((Is 194 x0 20) ∧ ( (vp_in x2 (ax_s x0).2) ∧ ( ∀ h7 : AH, h7 = ax_setI h x0 x2.toNatClampNeg x1 → ( ∀ v9 : Int32, v9 = x2 + (1) → ( L_J7_fill_53178_5 l g h7 x0 x1 v9 x3  Q)))))))) : L_J7_fill_53178_5 l g h x0 x1 x2 x3  Q := by
  refine wp_iload_n 2 dJ7_fill_53178_5 rfl rfl ?_
  refine wp_iload_n 3 dJ7_fill_53178_6 rfl rfl ?_
  refine wp_icmp_ge (tgt := 20) dJ7_fill_53178_7 (by decide) (fun c4 => ?_) (fun c4 => ?_)
  · have hb := hb.1 c4
    exact wp_vret rfl dJ7_fill_53178_20 ⟨rfl, hb⟩
  · have hb := hb.2 c4
    obtain ⟨i5, hb⟩ := hb
    refine wp_aload_n 0 dJ7_fill_53178_10 rfl rfl ?_
    refine wp_iload_n 2 dJ7_fill_53178_11 rfl rfl ?_
    refine wp_iload_n 1 dJ7_fill_53178_12 rfl rfl ?_
    obtain ⟨b6, hb⟩ := hb
    refine wp_iastore dJ7_fill_53178_13 i5 b6 ?_
    refine wp_topH (fun h7 e8 => ?_)
    have hb := hb h7 e8
    obtain ⟨v9, e10⟩ : ∃ y : Int32, y = x2 + (1) := ⟨_, rfl⟩
    have hb := hb v9 e10
    refine wp_iinc (v := v9) (lv2 := [(2, .int v9), (0, .ref x0), (1, .int x1), (3, .int x3)]) 2 dJ7_fill_53178_14 rfl (by rw [e10]; rfl) (by decide) rfl ?_
    refine wp_goto (tgt := 5) dJ7_fill_53178_17 (by decide) ?_
    exact wp_sub [1, 2, 0, 3] rfl hb
theorem c_J7_fill_53178 {l : Launch} {g : AG} {h : AH} {x0 : Nat} {x1 : Int32}  {Q : AH → Prop} (hb : L_J7_fill_53178_0 l g h x0 x1  Q) : C_J7_fill_53178 l g h x0 x1  Q := ax_met rfl (Nat.le_of_ble_eq_true rfl) hb
