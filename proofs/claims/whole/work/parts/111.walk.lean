def C_X7_takeCondNumber (l : Launch) (g : AG) (h : AH) (x0 : Nat)  (Q : Int32 → AH → Prop) : Prop := Ct l g mX7_takeCondNumber 2 43 194 194 h [.ref x0] (ax_QI Q)
def L_X7_takeCondNumber_0 (l : Launch) (g : AG) (h : AH) (x0 : Nat)  (Q : Int32 → AH → Prop) : Prop := Wp l g mX7_takeCondNumber 2 43 194 194 194 0 [(0, .ref x0)] [] h (FM g 194 194 (ax_QI Q))
set_option maxRecDepth 100000 in
set_option maxHeartbeats 4000000 in
theorem s_X7_takeCondNumber_0 {l : Launch} {g : AG} {h : AH} {x0 : Nat}  {Q : Int32 → AH → Prop} (hb : (Is 194 x0 6) ∧ ( C_X7_isNumber l g h x0 0 9 (fun r4 h3 => ( ((¬ r4 = 0 → ((Is 194 (h3.2.2 x0 1) 0) ∧ ( (Is 194 (h3.2.2 (h3.2.2 x0 1) 17) 3) ∧ ( (Is 194 (h3.2.2 x0 1) 0) ∧ ( (Is 194 (h3.2.2 x0 0) 7) ∧ ( C_X4_add l g h3 (h3.2.2 (h3.2.2 x0 1) 17) ((h3.1 (h3.2.2 x0 1) 1) - 1) (h3.1 x0 7) (h3.1 x0 8) (h3.1 (h3.2.2 x0 0) 6) (fun h11 => ( C_X7_awaits l g h11 x0 14 (fun r14 h13 => ( (r14 = 0 ∨ r14 = 1) ∧ ( Q r14 h13))))))))))) ∧ (r4 = 0 → (Q 0 h3))))))) : L_X7_takeCondNumber_0 l g h x0  Q := by
  obtain ⟨i1, hb⟩ := hb
  refine wp_aload_n 0 dX7_takeCondNumber_0 rfl rfl ?_
  refine wp_iconst (v := 0) dX7_takeCondNumber_1 (by decide) ?_
  refine wp_bipush (v := 9) dX7_takeCondNumber_2 (by decide) ?_
  refine wp_callV (as := [.int 0, .int 9]) dX7_takeCondNumber_4 cb_X7_isNumber lk_X7_186 im_X7_isNumber se_X7_isNumber rfl (Nat.le_of_ble_eq_true rfl) ⟨by decide, by decide⟩ ⟨Nat.le_refl _, Nat.le_refl _, Nat.le_refl _⟩ i1 rfl (by decide) hb (fun r0 h3 hb => ?_)
  obtain ⟨r4, rfl, hb⟩ := hb
  refine wp_if_ne (tgt := 12) dX7_takeCondNumber_7 (by decide) (fun c5 => ?_) (fun c5 => ?_)
  · have hb := hb.1 c5
    refine wp_aload_n 0 dX7_takeCondNumber_12 rfl rfl ?_
    obtain ⟨i6, hb⟩ := hb
    refine wp_getR dX7_takeCondNumber_13 fl_X7_64 i1 (i6.ne (by decide)) ?_
    obtain ⟨i7, hb⟩ := hb
    refine wp_getR dX7_takeCondNumber_16 fl_X7_236 i6 (i7.ne (by decide)) ?_
    refine wp_aload_n 0 dX7_takeCondNumber_19 rfl rfl ?_
    obtain ⟨i8, hb⟩ := hb
    refine wp_getR dX7_takeCondNumber_20 fl_X7_64 i1 (i8.ne (by decide)) ?_
    refine wp_getI dX7_takeCondNumber_23 fl_X7_207 i8 ?_
    refine wp_iconst (v := 1) dX7_takeCondNumber_26 (by decide) ?_
    refine wp_isub dX7_takeCondNumber_27 ?_
    refine wp_aload_n 0 dX7_takeCondNumber_28 rfl rfl ?_
    refine wp_getI dX7_takeCondNumber_29 fl_X7_36 i1 ?_
    refine wp_aload_n 0 dX7_takeCondNumber_32 rfl rfl ?_
    refine wp_getI dX7_takeCondNumber_33 fl_X7_39 i1 ?_
    refine wp_aload_n 0 dX7_takeCondNumber_36 rfl rfl ?_
    obtain ⟨i9, hb⟩ := hb
    refine wp_getR dX7_takeCondNumber_37 fl_X7_12 i1 (i9.ne (by decide)) ?_
    refine wp_getI dX7_takeCondNumber_40 fl_X7_165 i9 ?_
    refine wp_callVN (as := [.int ((h3.1 (h3.2.2 x0 1) 1) - 1), .int (h3.1 x0 7), .int (h3.1 x0 8), .int (h3.1 (h3.2.2 x0 0) 6)]) dX7_takeCondNumber_43 cb_X4_add lk_X7_248 im_X4_add se_X4_add rfl (Nat.le_of_ble_eq_true rfl) ⟨by decide, by decide⟩ ⟨Nat.le_refl _, Nat.le_refl _, Nat.le_refl _⟩ i7 rfl (by decide) hb (fun r0 h11 hb => ?_)
    obtain ⟨rfl, hb⟩ := hb
    refine wp_aload_n 0 dX7_takeCondNumber_46 rfl rfl ?_
    refine wp_bipush (v := 14) dX7_takeCondNumber_47 (by decide) ?_
    refine wp_callV (as := [.int 14]) dX7_takeCondNumber_49 cb_X7_awaits lk_X7_131 im_X7_awaits se_X7_awaits rfl (Nat.le_of_ble_eq_true rfl) ⟨by decide, by decide⟩ ⟨Nat.le_refl _, Nat.le_refl _, Nat.le_refl _⟩ i1 rfl (by decide) hb (fun r0 h13 hb => ?_)
    obtain ⟨r14, rfl, hb⟩ := hb
    obtain ⟨q15, hb⟩ := hb
    exact wp_zret rfl dX7_takeCondNumber_52 q15 ⟨_, rfl, hb⟩
  · have hb := hb.2 c5
    refine wp_iconst (v := 0) dX7_takeCondNumber_10 (by decide) ?_
    exact wp_zret rfl dX7_takeCondNumber_11 (Or.inl rfl) ⟨_, rfl, hb⟩
theorem c_X7_takeCondNumber {l : Launch} {g : AG} {h : AH} {x0 : Nat}  {Q : Int32 → AH → Prop} (hb : L_X7_takeCondNumber_0 l g h x0  Q) : C_X7_takeCondNumber l g h x0  Q := ax_met rfl (Nat.le_of_ble_eq_true rfl) hb
def C_X0_addTimer (l : Launch) (g : AG) (h : AH) (x0 : Nat) (x1 : Int32) (x2 : Int32)  (Q : AH → Prop) : Prop := Ct l g mX0_addTimer 0 0 194 194 h [.ref x0, .int x1, .int x2] (ax_QV Q)
def L_X0_addTimer_0 (l : Launch) (g : AG) (h : AH) (x0 : Nat) (x1 : Int32) (x2 : Int32)  (Q : AH → Prop) : Prop := Wp l g mX0_addTimer 0 0 194 194 194 0 [(0, .ref x0), (1, .int x1), (2, .int x2)] [] h (FM g 194 194 (ax_QV Q))
set_option maxRecDepth 100000 in
set_option maxHeartbeats 4000000 in
theorem s_X0_addTimer_0 {l : Launch} {g : AG} {h : AH} {x0 : Nat} {x1 : Int32} {x2 : Int32}  {Q : AH → Prop} (hb : (Is 194 x0 0) ∧ ( (Is 194 (h.2.2 x0 13) 20) ∧ ( (vp_in x1 (ax_s (h.2.2 x0 13)).2) ∧ ( ∀ h4 : AH, h4 = ax_setI h (h.2.2 x0 13) x1.toNatClampNeg x2 → ( ∀ h6 : AH, h6 = ax_setI h4 x0 5 ((h4.1 x0 5) + 1) → ( Q h6)))))) : L_X0_addTimer_0 l g h x0 x1 x2  Q := by
  obtain ⟨i1, hb⟩ := hb
  refine wp_aload_n 0 dX0_addTimer_0 rfl rfl ?_
  obtain ⟨i2, hb⟩ := hb
  refine wp_getR dX0_addTimer_1 fl_X0_54 i1 (i2.ne (by decide)) ?_
  refine wp_iload_n 1 dX0_addTimer_4 rfl rfl ?_
  refine wp_iload_n 2 dX0_addTimer_5 rfl rfl ?_
  obtain ⟨b3, hb⟩ := hb
  refine wp_iastore dX0_addTimer_6 i2 b3 ?_
  refine wp_topH (fun h4 e5 => ?_)
  have hb := hb h4 e5
  refine wp_aload_n 0 dX0_addTimer_7 rfl rfl ?_
  refine wp_dup dX0_addTimer_8 rfl ?_
  refine wp_getI dX0_addTimer_9 fl_X0_27 i1 ?_
  refine wp_iconst (v := 1) dX0_addTimer_12 (by decide) ?_
  refine wp_iadd dX0_addTimer_13 ?_
  refine wp_putI dX0_addTimer_14 fl_X0_27 (Or.inl rfl) i1 ?_
  refine wp_topH (fun h6 e7 => ?_)
  have hb := hb h6 e7
  exact wp_vret rfl dX0_addTimer_17 ⟨rfl, hb⟩
theorem c_X0_addTimer {l : Launch} {g : AG} {h : AH} {x0 : Nat} {x1 : Int32} {x2 : Int32}  {Q : AH → Prop} (hb : L_X0_addTimer_0 l g h x0 x1 x2  Q) : C_X0_addTimer l g h x0 x1 x2  Q := ax_met rfl (Nat.le_of_ble_eq_true rfl) hb
def C_X7_takeTimerTicks (l : Launch) (g : AG) (h : AH) (x0 : Nat)  (Q : Int32 → AH → Prop) : Prop := Ct l g mX7_takeTimerTicks 2 43 194 194 h [.ref x0] (ax_QI Q)
def L_X7_takeTimerTicks_0 (l : Launch) (g : AG) (h : AH) (x0 : Nat)  (Q : Int32 → AH → Prop) : Prop := Wp l g mX7_takeTimerTicks 2 43 194 194 194 0 [(0, .ref x0)] [] h (FM g 194 194 (ax_QI Q))
set_option maxRecDepth 100000 in
set_option maxHeartbeats 4000000 in
theorem s_X7_takeTimerTicks_0 {l : Launch} {g : AG} {h : AH} {x0 : Nat}  {Q : Int32 → AH → Prop} (hb : (Is 194 x0 6) ∧ ( C_X7_isNumber l g h x0 1 9 (fun r4 h3 => ( ((¬ r4 = 0 → ((Is 194 (h3.2.2 x0 1) 0) ∧ ( ∀ v7 : Int32, v7 = ((h3.1 (h3.2.2 x0 1) 0) - 1) → ( C_X5_ofTimer l g h3 v7 (fun r11 h10 => ( ∀ h12 : AH, h12 = ax_setI h10 x0 10 r11 → ( (Is 194 (h12.2.2 x0 1) 0) ∧ ( (Is 194 (h12.2.2 x0 0) 7) ∧ ( C_X0_addTimer l g h12 (h12.2.2 x0 1) v7 (h12.1 (h12.2.2 x0 0) 6) (fun h17 => ( C_X7_awaits l g h17 x0 16 (fun r20 h19 => ( (r20 = 0 ∨ r20 = 1) ∧ ( Q r20 h19)))))))))))))) ∧ (r4 = 0 → (Q 0 h3))))))) : L_X7_takeTimerTicks_0 l g h x0  Q := by
  obtain ⟨i1, hb⟩ := hb
  refine wp_aload_n 0 dX7_takeTimerTicks_0 rfl rfl ?_
  refine wp_iconst (v := 1) dX7_takeTimerTicks_1 (by decide) ?_
  refine wp_bipush (v := 9) dX7_takeTimerTicks_2 (by decide) ?_
  refine wp_callV (as := [.int 1, .int 9]) dX7_takeTimerTicks_4 cb_X7_isNumber lk_X7_186 im_X7_isNumber se_X7_isNumber rfl (Nat.le_of_ble_eq_true rfl) ⟨by decide, by decide⟩ ⟨Nat.le_refl _, Nat.le_refl _, Nat.le_refl _⟩ i1 rfl (by decide) hb (fun r0 h3 hb => ?_)
  obtain ⟨r4, rfl, hb⟩ := hb
  refine wp_if_ne (tgt := 12) dX7_takeTimerTicks_7 (by decide) (fun c5 => ?_) (fun c5 => ?_)
  · have hb := hb.1 c5
    refine wp_aload_n 0 dX7_takeTimerTicks_12 rfl rfl ?_
    obtain ⟨i6, hb⟩ := hb
    refine wp_getR dX7_takeTimerTicks_13 fl_X7_64 i1 (i6.ne (by decide)) ?_
    refine wp_getI dX7_takeTimerTicks_16 fl_X7_83 i6 ?_
    refine wp_iconst (v := 1) dX7_takeTimerTicks_19 (by decide) ?_
    refine wp_isub dX7_takeTimerTicks_20 ?_
    refine wp_topi (fun v7 e8 => ?_)
    have hb := hb v7 e8
    refine wp_istore_n (lv2 := [(1, .int v7), (0, .ref x0)]) dX7_takeTimerTicks_21 rfl (by decide) rfl ?_
    refine wp_aload_n 1 dX7_takeTimerTicks_22 rfl rfl ?_
    refine wp_iload_n 0 dX7_takeTimerTicks_23 rfl rfl ?_
    refine wp_callSN (as := [.int v7]) dX7_takeTimerTicks_24 cb_X5_ofTimer lk_X7_252 st_X5_ofTimer rfl (Nat.le_of_ble_eq_true rfl) ⟨by decide, by decide⟩ ⟨Nat.le_refl _, Nat.le_refl _, Nat.le_refl _⟩ hb (fun r0 h10 hb => ?_)
    obtain ⟨r11, rfl, hb⟩ := hb
    refine wp_putI dX7_takeTimerTicks_27 fl_X7_45 (Or.inl rfl) i1 ?_
    refine wp_topH (fun h12 e13 => ?_)
    have hb := hb h12 e13
    refine wp_aload_n 1 dX7_takeTimerTicks_30 rfl rfl ?_
    obtain ⟨i14, hb⟩ := hb
    refine wp_getR dX7_takeTimerTicks_31 fl_X7_64 i1 (i14.ne (by decide)) ?_
    refine wp_iload_n 0 dX7_takeTimerTicks_34 rfl rfl ?_
    refine wp_aload_n 1 dX7_takeTimerTicks_35 rfl rfl ?_
    obtain ⟨i15, hb⟩ := hb
    refine wp_getR dX7_takeTimerTicks_36 fl_X7_12 i1 (i15.ne (by decide)) ?_
    refine wp_getI dX7_takeTimerTicks_39 fl_X7_165 i15 ?_
    refine wp_callVN (as := [.int v7, .int (h12.1 (h12.2.2 x0 0) 6)]) dX7_takeTimerTicks_42 cb_X0_addTimer lk_X7_256 im_X0_addTimer se_X0_addTimer rfl (Nat.le_of_ble_eq_true rfl) ⟨by decide, by decide⟩ ⟨Nat.le_refl _, Nat.le_refl _, Nat.le_refl _⟩ i14 rfl (by decide) hb (fun r0 h17 hb => ?_)
    obtain ⟨rfl, hb⟩ := hb
    refine wp_aload_n 1 dX7_takeTimerTicks_45 rfl rfl ?_
    refine wp_bipush (v := 16) dX7_takeTimerTicks_46 (by decide) ?_
    refine wp_callV (as := [.int 16]) dX7_takeTimerTicks_48 cb_X7_awaits lk_X7_131 im_X7_awaits se_X7_awaits rfl (Nat.le_of_ble_eq_true rfl) ⟨by decide, by decide⟩ ⟨Nat.le_refl _, Nat.le_refl _, Nat.le_refl _⟩ i1 rfl (by decide) hb (fun r0 h19 hb => ?_)
    obtain ⟨r20, rfl, hb⟩ := hb
    obtain ⟨q21, hb⟩ := hb
    exact wp_zret rfl dX7_takeTimerTicks_51 q21 ⟨_, rfl, hb⟩
  · have hb := hb.2 c5
    refine wp_iconst (v := 0) dX7_takeTimerTicks_10 (by decide) ?_
    exact wp_zret rfl dX7_takeTimerTicks_11 (Or.inl rfl) ⟨_, rfl, hb⟩
theorem c_X7_takeTimerTicks {l : Launch} {g : AG} {h : AH} {x0 : Nat}  {Q : Int32 → AH → Prop} (hb : L_X7_takeTimerTicks_0 l g h x0  Q) : C_X7_takeTimerTicks l g h x0  Q := ax_met rfl (Nat.le_of_ble_eq_true rfl) hb
def C_X7_deedSaid (l : Launch) (g : AG) (h : AH) (x0 : Nat)  (Q : Int32 → AH → Prop) : Prop := Ct l g mX7_deedSaid 5 142 194 194 h [.ref x0] (ax_QI Q)
def L_X7_deedSaid_0 (l : Launch) (g : AG) (h : AH) (x0 : Nat)  (Q : Int32 → AH → Prop) : Prop := Wp l g mX7_deedSaid 5 142 194 194 194 0 [(0, .ref x0)] [] h (FM g 194 194 (ax_QI Q))
set_option maxRecDepth 100000 in
set_option maxHeartbeats 4000000 in
theorem s_X7_deedSaid_0 {l : Launch} {g : AG} {h : AH} {x0 : Nat}  {Q : Int32 → AH → Prop} (hb : (Is 194 x0 6) ∧ ( (Is 194 (h.2.2 x0 0) 7) ∧ ( C_X8_says l g h (h.2.2 x0 0) 1009 (fun r5 h4 => ( ((r5 = 0 → ((Is 194 (h4.2.2 x0 0) 7) ∧ ( C_X8_says l g h4 (h4.2.2 x0 0) 1004 (fun r10 h9 => ( ((r10 = 0 → ((Is 194 (h9.2.2 x0 0) 7) ∧ ( C_X8_says l g h9 (h9.2.2 x0 0) 1010 (fun r15 h14 => ( ((r15 = 0 → ((Is 194 (h14.2.2 x0 0) 7) ∧ ( C_X8_says l g h14 (h14.2.2 x0 0) 1000 (fun r20 h19 => ( ((r20 = 0 → ((Is 194 (h19.2.2 x0 0) 7) ∧ ( C_X8_says l g h19 (h19.2.2 x0 0) 1006 (fun r25 h24 => ( ((r25 = 0 → (Q (-1) h24)) ∧ (¬ (r25 = 0) → (Q 4 h24)))))))) ∧ (¬ (r20 = 0) → (Q 3 h19)))))))) ∧ (¬ (r15 = 0) → (Q 2 h14)))))))) ∧ (¬ (r10 = 0) → (Q 1 h9)))))))) ∧ (¬ (r5 = 0) → (Q 0 h4)))))))) : L_X7_deedSaid_0 l g h x0  Q := by
  obtain ⟨i1, hb⟩ := hb
  refine wp_aload_n 0 dX7_deedSaid_0 rfl rfl ?_
  obtain ⟨i2, hb⟩ := hb
  refine wp_getR dX7_deedSaid_1 fl_X7_12 i1 (i2.ne (by decide)) ?_
  refine wp_ldcSw (q := ("WindowHouse$Reader", 271, "open", 9)) dX7_deedSaid_4 (by decide +kernel) rfl rfl ?_
  refine wp_callVN (as := [.ref 1009]) dX7_deedSaid_7 cb_X8_says lk_X7_127 im_X8_says se_X8_says rfl (Nat.le_of_ble_eq_true rfl) ⟨by decide, by decide⟩ ⟨Nat.le_refl _, Nat.le_refl _, Nat.le_refl _⟩ i2 rfl (by decide) hb (fun r0 h4 hb => ?_)
  obtain ⟨r5, rfl, hb⟩ := hb
  refine wp_if_eq (tgt := 15) dX7_deedSaid_10 (by decide) (fun c6 => ?_) (fun c6 => ?_)
  · have hb := hb.1 c6
    refine wp_aload_n 0 dX7_deedSaid_15 rfl rfl ?_
    obtain ⟨i7, hb⟩ := hb
    refine wp_getR dX7_deedSaid_16 fl_X7_12 i1 (i7.ne (by decide)) ?_
    refine wp_ldcSw (q := ("WindowHouse$Reader", 273, "close", 4)) dX7_deedSaid_19 (by decide +kernel) rfl rfl ?_
    refine wp_callVN (as := [.ref 1004]) dX7_deedSaid_22 cb_X8_says lk_X7_127 im_X8_says se_X8_says rfl (Nat.le_of_ble_eq_true rfl) ⟨by decide, by decide⟩ ⟨Nat.le_refl _, Nat.le_refl _, Nat.le_refl _⟩ i7 rfl (by decide) hb (fun r0 h9 hb => ?_)
    obtain ⟨r10, rfl, hb⟩ := hb
    refine wp_if_eq (tgt := 30) dX7_deedSaid_25 (by decide) (fun c11 => ?_) (fun c11 => ?_)
    · have hb := hb.1 c11
      refine wp_aload_n 0 dX7_deedSaid_30 rfl rfl ?_
      obtain ⟨i12, hb⟩ := hb
      refine wp_getR dX7_deedSaid_31 fl_X7_12 i1 (i12.ne (by decide)) ?_
      refine wp_ldcSw (q := ("WindowHouse$Reader", 275, "set", 10)) dX7_deedSaid_34 (by decide +kernel) rfl rfl ?_
      refine wp_callVN (as := [.ref 1010]) dX7_deedSaid_37 cb_X8_says lk_X7_127 im_X8_says se_X8_says rfl (Nat.le_of_ble_eq_true rfl) ⟨by decide, by decide⟩ ⟨Nat.le_refl _, Nat.le_refl _, Nat.le_refl _⟩ i12 rfl (by decide) hb (fun r0 h14 hb => ?_)
      obtain ⟨r15, rfl, hb⟩ := hb
      refine wp_if_eq (tgt := 45) dX7_deedSaid_40 (by decide) (fun c16 => ?_) (fun c16 => ?_)
      · have hb := hb.1 c16
        refine wp_aload_n 0 dX7_deedSaid_45 rfl rfl ?_
        obtain ⟨i17, hb⟩ := hb
        refine wp_getR dX7_deedSaid_46 fl_X7_12 i1 (i17.ne (by decide)) ?_
        refine wp_ldcSw (q := ("WindowHouse$Reader", 277, "add", 0)) dX7_deedSaid_49 (by decide +kernel) rfl rfl ?_
        refine wp_callVN (as := [.ref 1000]) dX7_deedSaid_52 cb_X8_says lk_X7_127 im_X8_says se_X8_says rfl (Nat.le_of_ble_eq_true rfl) ⟨by decide, by decide⟩ ⟨Nat.le_refl _, Nat.le_refl _, Nat.le_refl _⟩ i17 rfl (by decide) hb (fun r0 h19 hb => ?_)
        obtain ⟨r20, rfl, hb⟩ := hb
        refine wp_if_eq (tgt := 60) dX7_deedSaid_55 (by decide) (fun c21 => ?_) (fun c21 => ?_)
        · have hb := hb.1 c21
          refine wp_aload_n 0 dX7_deedSaid_60 rfl rfl ?_
          obtain ⟨i22, hb⟩ := hb
          refine wp_getR dX7_deedSaid_61 fl_X7_12 i1 (i22.ne (by decide)) ?_
          refine wp_ldcSw (q := ("WindowHouse$Reader", 278, "fault", 6)) dX7_deedSaid_64 (by decide +kernel) rfl rfl ?_
          refine wp_callVN (as := [.ref 1006]) dX7_deedSaid_67 cb_X8_says lk_X7_127 im_X8_says se_X8_says rfl (Nat.le_of_ble_eq_true rfl) ⟨by decide, by decide⟩ ⟨Nat.le_refl _, Nat.le_refl _, Nat.le_refl _⟩ i22 rfl (by decide) hb (fun r0 h24 hb => ?_)
          obtain ⟨r25, rfl, hb⟩ := hb
          refine wp_if_eq (tgt := 77) dX7_deedSaid_70 (by decide) (fun c26 => ?_) (fun c26 => ?_)
          · have hb := hb.1 c26
            refine wp_iconst (v := (-1)) dX7_deedSaid_77 (by decide) ?_
            exact wp_iret rfl dX7_deedSaid_78 ⟨_, rfl, hb⟩
          · have hb := hb.2 c26
            refine wp_iconst (v := 4) dX7_deedSaid_73 (by decide) ?_
            refine wp_goto (tgt := 78) dX7_deedSaid_74 (by decide) ?_
            exact wp_iret rfl dX7_deedSaid_78 ⟨_, rfl, hb⟩
        · have hb := hb.2 c21
          refine wp_iconst (v := 3) dX7_deedSaid_58 (by decide) ?_
          exact wp_iret rfl dX7_deedSaid_59 ⟨_, rfl, hb⟩
      · have hb := hb.2 c16
        refine wp_iconst (v := 2) dX7_deedSaid_43 (by decide) ?_
        exact wp_iret rfl dX7_deedSaid_44 ⟨_, rfl, hb⟩
    · have hb := hb.2 c11
      refine wp_iconst (v := 1) dX7_deedSaid_28 (by decide) ?_
      exact wp_iret rfl dX7_deedSaid_29 ⟨_, rfl, hb⟩
  · have hb := hb.2 c6
    refine wp_iconst (v := 0) dX7_deedSaid_13 (by decide) ?_
    exact wp_iret rfl dX7_deedSaid_14 ⟨_, rfl, hb⟩
theorem c_X7_deedSaid {l : Launch} {g : AG} {h : AH} {x0 : Nat}  {Q : Int32 → AH → Prop} (hb : L_X7_deedSaid_0 l g h x0  Q) : C_X7_deedSaid l g h x0  Q := ax_met rfl (Nat.le_of_ble_eq_true rfl) hb
