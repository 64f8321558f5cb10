def C_X9_wind (l : Launch) (g : AG) (h : AH) (x0 : Nat) (x1 : Int32)  (Q : AH → Prop) : Prop := Ct l g mX9_wind 0 0 194 194 h [.ref x0, .int x1] (ax_QV Q)
def L_X9_wind_0 (l : Launch) (g : AG) (h : AH) (x0 : Nat) (x1 : Int32)  (Q : AH → Prop) : Prop := Wp l g mX9_wind 0 0 194 194 194 0 [(0, .ref x0), (1, .int x1)] [] h (FM g 194 194 (ax_QV Q))
def L_X9_wind_3 (l : Launch) (g : AG) (h : AH) (x0 : Nat) (x1 : Int32) (x2 : Int32)  (Q : AH → Prop) : Prop := Wp l g mX9_wind 0 0 194 194 194 3 [(0, .ref x0), (1, .int x1), (2, .int x2)] [] h (FM g 194 194 (ax_QV Q))
set_option maxRecDepth 100000 in
set_option maxHeartbeats 4000000 in
theorem s_X9_wind_0 {l : Launch} {g : AG} {h : AH} {x0 : Nat} {x1 : Int32}  {Q : AH → Prop} (hb : L_X9_wind_3 l g h x0 x1 24  Q) : L_X9_wind_0 l g h x0 x1  Q := by
  refine wp_bipush (v := 24) dX9_wind_0 (by decide) ?_
  refine wp_istore_n (lv2 := [(2, .int 24), (0, .ref x0), (1, .int x1)]) dX9_wind_2 rfl (by decide) rfl ?_
  exact wp_sub [1, 2, 0] rfl hb
set_option maxRecDepth 100000 in
set_option maxHeartbeats 4000000 in
theorem s_X9_wind_3 {l : Launch} {g : AG} {h : AH} {x0 : Nat} {x1 : Int32} {x2 : Int32}  {Q : AH → Prop} (hb : ((x2 < 0 → (Q h)) ∧ (¬ (x2 < 0) → ((Is 194 x0 8) ∧ ( ((800 ≤ h.1 x0 1 → (Q h)) ∧ (¬ (800 ≤ h.1 x0 1) → ((Is 194 (h.2.2 x0 0) 20) ∧ ( (vp_in (h.1 x0 1) (ax_s (h.2.2 x0 0)).2) ∧ ( ∀ h6 : AH, h6 = ax_setI h (h.2.2 x0 0) (h.1 x0 1).toNatClampNeg ((jiushr x1 x2) &&& 255) → ( ∀ h8 : AH, h8 = ax_setI h6 x0 1 ((h6.1 x0 1) + 1) → ( ∀ v10 : Int32, v10 = x2 + (-8) → ( L_X9_wind_3 l g h8 x0 x1 v10  Q))))))))))))) : L_X9_wind_3 l g h x0 x1 x2  Q := by
  refine wp_iload_n 2 dX9_wind_3 rfl rfl ?_
  refine wp_if_lt (tgt := 49) dX9_wind_4 (by decide) (fun c1 => ?_) (fun c1 => ?_)
  · have hb := hb.1 c1
    exact wp_vret rfl dX9_wind_49 ⟨rfl, hb⟩
  · have hb := hb.2 c1
    obtain ⟨i2, hb⟩ := hb
    refine wp_aload_n 0 dX9_wind_7 rfl rfl ?_
    refine wp_getI dX9_wind_8 fl_X9_13 i2 ?_
    refine wp_sipush (v := 800) dX9_wind_11 (by decide) ?_
    refine wp_icmp_ge (tgt := 49) dX9_wind_14 (by decide) (fun c3 => ?_) (fun c3 => ?_)
    · have hb := hb.1 c3
      exact wp_vret rfl dX9_wind_49 ⟨rfl, hb⟩
    · have hb := hb.2 c3
      refine wp_aload_n 0 dX9_wind_17 rfl rfl ?_
      obtain ⟨i4, hb⟩ := hb
      refine wp_getR dX9_wind_18 fl_X9_9 i2 (i4.ne (by decide)) ?_
      refine wp_aload_n 0 dX9_wind_21 rfl rfl ?_
      refine wp_getI dX9_wind_22 fl_X9_13 i2 ?_
      refine wp_iload_n 1 dX9_wind_25 rfl rfl ?_
      refine wp_iload_n 2 dX9_wind_26 rfl rfl ?_
      refine wp_iushr dX9_wind_27 ?_
      refine wp_sipush (v := 255) dX9_wind_28 (by decide) ?_
      refine wp_iand dX9_wind_31 ?_
      obtain ⟨b5, hb⟩ := hb
      refine wp_iastore dX9_wind_32 i4 b5 ?_
      refine wp_topH (fun h6 e7 => ?_)
      have hb := hb h6 e7
      refine wp_aload_n 0 dX9_wind_33 rfl rfl ?_
      refine wp_dup dX9_wind_34 rfl ?_
      refine wp_getI dX9_wind_35 fl_X9_13 i2 ?_
      refine wp_iconst (v := 1) dX9_wind_38 (by decide) ?_
      refine wp_iadd dX9_wind_39 ?_
      refine wp_putI dX9_wind_40 fl_X9_13 (Or.inl rfl) i2 ?_
      refine wp_topH (fun h8 e9 => ?_)
      have hb := hb h8 e9
      obtain ⟨v10, e11⟩ : ∃ y : Int32, y = x2 + (-8) := ⟨_, rfl⟩
      have hb := hb v10 e11
      refine wp_iinc (v := v10) (lv2 := [(2, .int v10), (0, .ref x0), (1, .int x1)]) 2 dX9_wind_43 rfl (by rw [e11]; rfl) (by decide) rfl ?_
      refine wp_goto (tgt := 3) dX9_wind_46 (by decide) ?_
      exact wp_sub [1, 2, 0] rfl hb
theorem c_X9_wind {l : Launch} {g : AG} {h : AH} {x0 : Nat} {x1 : Int32}  {Q : AH → Prop} (hb : L_X9_wind_0 l g h x0 x1  Q) : C_X9_wind l g h x0 x1  Q := ax_met rfl (Nat.le_of_ble_eq_true rfl) hb
def C_X9_feed (l : Launch) (g : AG) (h : AH) (x0 : Nat) (x1 : Int32) (x2 : Int32) (x3 : Int32) (x4 : Int32) (x5 : Int32)  (Q : Int32 → AH → Prop) : Prop := Ct l g mX9_feed 1 22 194 194 h [.ref x0, .int x1, .int x2, .int x3, .int x4, .int x5] (ax_QI Q)
def L_X9_feed_0 (l : Launch) (g : AG) (h : AH) (x0 : Nat) (x1 : Int32) (x2 : Int32) (x3 : Int32) (x4 : Int32) (x5 : Int32)  (Q : Int32 → AH → Prop) : Prop := Wp l g mX9_feed 1 22 194 194 194 0 [(0, .ref x0), (1, .int x1), (2, .int x2), (3, .int x3), (4, .int x4), (5, .int x5)] [] h (FM g 194 194 (ax_QI Q))
set_option maxRecDepth 100000 in
set_option maxHeartbeats 4000000 in
theorem s_X9_feed_0 {l : Launch} {g : AG} {h : AH} {x0 : Nat} {x1 : Int32} {x2 : Int32} {x3 : Int32} {x4 : Int32} {x5 : Int32}  {Q : Int32 → AH → Prop} (hb : (Is 194 x0 8) ∧ ( (((h.1 x0 1) + 20 ≤ 800 → (C_X9_wind l g h x0 x1 (fun h4 => ( C_X9_wind l g h4 x0 x2 (fun h6 => ( C_X9_wind l g h6 x0 x3 (fun h8 => ( C_X9_wind l g h8 x0 x4 (fun h10 => ( C_X9_wind l g h10 x0 x5 (fun h12 => ( Q (h12.1 x0 1) h12)))))))))))) ∧ (¬ ((h.1 x0 1) + 20 ≤ 800) → (Q (-1) h))))) : L_X9_feed_0 l g h x0 x1 x2 x3 x4 x5  Q := by
  obtain ⟨i1, hb⟩ := hb
  refine wp_aload_n 0 dX9_feed_0 rfl rfl ?_
  refine wp_getI dX9_feed_1 fl_X9_13 i1 ?_
  refine wp_bipush (v := 20) dX9_feed_4 (by decide) ?_
  refine wp_iadd dX9_feed_6 ?_
  refine wp_sipush (v := 800) dX9_feed_7 (by decide) ?_
  refine wp_icmp_le (tgt := 15) dX9_feed_10 (by decide) (fun c2 => ?_) (fun c2 => ?_)
  · have hb := hb.1 c2
    refine wp_aload_n 0 dX9_feed_15 rfl rfl ?_
    refine wp_iload_n 1 dX9_feed_16 rfl rfl ?_
    refine wp_callV (as := [.int x1]) dX9_feed_17 cb_X9_wind lk_X9_72 im_X9_wind se_X9_wind rfl (Nat.le_of_ble_eq_true rfl) ⟨by decide, by decide⟩ ⟨Nat.le_refl _, Nat.le_refl _, Nat.le_refl _⟩ i1 rfl (by decide) hb (fun r0 h4 hb => ?_)
    obtain ⟨rfl, hb⟩ := hb
    refine wp_aload_n 0 dX9_feed_20 rfl rfl ?_
    refine wp_iload_n 2 dX9_feed_21 rfl rfl ?_
    refine wp_callV (as := [.int x2]) dX9_feed_22 cb_X9_wind lk_X9_72 im_X9_wind se_X9_wind rfl (Nat.le_of_ble_eq_true rfl) ⟨by decide, by decide⟩ ⟨Nat.le_refl _, Nat.le_refl _, Nat.le_refl _⟩ i1 rfl (by decide) hb (fun r0 h6 hb => ?_)
    obtain ⟨rfl, hb⟩ := hb
    refine wp_aload_n 0 dX9_feed_25 rfl rfl ?_
    refine wp_iload_n 3 dX9_feed_26 rfl rfl ?_
    refine wp_callV (as := [.int x3]) dX9_feed_27 cb_X9_wind lk_X9_72 im_X9_wind se_X9_wind rfl (Nat.le_of_ble_eq_true rfl) ⟨by decide, by decide⟩ ⟨Nat.le_refl _, Nat.le_refl _, Nat.le_refl _⟩ i1 rfl (by decide) hb (fun r0 h8 hb => ?_)
    obtain ⟨rfl, hb⟩ := hb
    refine wp_aload_n 0 dX9_feed_30 rfl rfl ?_
    refine wp_iload 4 dX9_feed_31 rfl ?_
    refine wp_callV (as := [.int x4]) dX9_feed_33 cb_X9_wind lk_X9_72 im_X9_wind se_X9_wind rfl (Nat.le_of_ble_eq_true rfl) ⟨by decide, by decide⟩ ⟨Nat.le_refl _, Nat.le_refl _, Nat.le_refl _⟩ i1 rfl (by decide) hb (fun r0 h10 hb => ?_)
    obtain ⟨rfl, hb⟩ := hb
    refine wp_aload_n 0 dX9_feed_36 rfl rfl ?_
    refine wp_iload 5 dX9_feed_37 rfl ?_
    refine wp_callV (as := [.int x5]) dX9_feed_39 cb_X9_wind lk_X9_72 im_X9_wind se_X9_wind rfl (Nat.le_of_ble_eq_true rfl) ⟨by decide, by decide⟩ ⟨Nat.le_refl _, Nat.le_refl _, Nat.le_refl _⟩ i1 rfl (by decide) hb (fun r0 h12 hb => ?_)
    obtain ⟨rfl, hb⟩ := hb
    refine wp_aload_n 0 dX9_feed_42 rfl rfl ?_
    refine wp_getI dX9_feed_43 fl_X9_13 i1 ?_
    exact wp_iret rfl dX9_feed_46 ⟨_, rfl, hb⟩
  · have hb := hb.2 c2
    refine wp_iconst (v := (-1)) dX9_feed_13 (by decide) ?_
    exact wp_iret rfl dX9_feed_14 ⟨_, rfl, hb⟩
theorem c_X9_feed {l : Launch} {g : AG} {h : AH} {x0 : Nat} {x1 : Int32} {x2 : Int32} {x3 : Int32} {x4 : Int32} {x5 : Int32}  {Q : Int32 → AH → Prop} (hb : L_X9_feed_0 l g h x0 x1 x2 x3 x4 x5  Q) : C_X9_feed l g h x0 x1 x2 x3 x4 x5  Q := ax_met rfl (Nat.le_of_ble_eq_true rfl) hb
def C_X9_refused (l : Launch) (g : AG) (h : AH) (x0 : Nat) (x1 : Int32)  (Q : Int32 → AH → Prop) : Prop := Ct l g mX9_refused 0 0 194 194 h [.ref x0, .int x1] (ax_QI Q)
def L_X9_refused_0 (l : Launch) (g : AG) (h : AH) (x0 : Nat) (x1 : Int32)  (Q : Int32 → AH → Prop) : Prop := Wp l g mX9_refused 0 0 194 194 194 0 [(0, .ref x0), (1, .int x1)] [] h (FM g 194 194 (ax_QI Q))
set_option maxRecDepth 100000 in
set_option maxHeartbeats 4000000 in
theorem s_X9_refused_0 {l : Launch} {g : AG} {h : AH} {x0 : Nat} {x1 : Int32}  {Q : Int32 → AH → Prop} (hb : (Is 194 x0 8) ∧ ( ∀ h2 : AH, h2 = ax_setI h x0 12 x1 → ( Q (-1) h2))) : L_X9_refused_0 l g h x0 x1  Q := by
  obtain ⟨i1, hb⟩ := hb
  refine wp_aload_n 0 dX9_refused_0 rfl rfl ?_
  refine wp_iload_n 1 dX9_refused_1 rfl rfl ?_
  refine wp_putI dX9_refused_2 fl_X9_69 (Or.inl rfl) i1 ?_
  refine wp_topH (fun h2 e3 => ?_)
  have hb := hb h2 e3
  refine wp_iconst (v := (-1)) dX9_refused_5 (by decide) ?_
  exact wp_iret rfl dX9_refused_6 ⟨_, rfl, hb⟩
theorem c_X9_refused {l : Launch} {g : AG} {h : AH} {x0 : Nat} {x1 : Int32}  {Q : Int32 → AH → Prop} (hb : L_X9_refused_0 l g h x0 x1  Q) : C_X9_refused l g h x0 x1  Q := ax_met rfl (Nat.le_of_ble_eq_true rfl) hb
def C_X0_clear (l : Launch) (g : AG) (h : AH) (x0 : Nat)  (Q : AH → Prop) : Prop := Ct l g mX0_clear 0 0 194 194 h [.ref x0] (ax_QV Q)
def L_X0_clear_0 (l : Launch) (g : AG) (h : AH) (x0 : Nat)  (Q : AH → Prop) : Prop := Wp l g mX0_clear 0 0 194 194 194 0 [(0, .ref x0)] [] h (FM g 194 194 (ax_QV Q))
set_option maxRecDepth 100000 in
set_option maxHeartbeats 4000000 in
theorem s_X0_clear_0 {l : Launch} {g : AG} {h : AH} {x0 : Nat}  {Q : AH → Prop} (hb : (Is 194 x0 0) ∧ ( ∀ h2 : AH, h2 = ax_setI h x0 0 0 → ( ∀ h4 : AH, h4 = ax_setI h2 x0 1 0 → ( ∀ h6 : AH, h6 = ax_setI h4 x0 2 0 → ( ∀ h8 : AH, h8 = ax_setI h6 x0 3 0 → ( ∀ h10 : AH, h10 = ax_setI h8 x0 4 0 → ( ∀ h12 : AH, h12 = ax_setI h10 x0 5 0 → ( ∀ h14 : AH, h14 = ax_setL h12 x0 6 0 → ( Q h14))))))))) : L_X0_clear_0 l g h x0  Q := by
  obtain ⟨i1, hb⟩ := hb
  refine wp_aload_n 0 dX0_clear_0 rfl rfl ?_
  refine wp_iconst (v := 0) dX0_clear_1 (by decide) ?_
  refine wp_putI dX0_clear_2 fl_X0_9 (Or.inl rfl) i1 ?_
  refine wp_topH (fun h2 e3 => ?_)
  have hb := hb h2 e3
  refine wp_aload_n 0 dX0_clear_5 rfl rfl ?_
  refine wp_iconst (v := 0) dX0_clear_6 (by decide) ?_
  refine wp_putI dX0_clear_7 fl_X0_15 (Or.inl rfl) i1 ?_
  refine wp_topH (fun h4 e5 => ?_)
  have hb := hb h4 e5
  refine wp_aload_n 0 dX0_clear_10 rfl rfl ?_
  refine wp_iconst (v := 0) dX0_clear_11 (by decide) ?_
  refine wp_putI dX0_clear_12 fl_X0_18 (Or.inl rfl) i1 ?_
  refine wp_topH (fun h6 e7 => ?_)
  have hb := hb h6 e7
  refine wp_aload_n 0 dX0_clear_15 rfl rfl ?_
  refine wp_iconst (v := 0) dX0_clear_16 (by decide) ?_
  refine wp_putI dX0_clear_17 fl_X0_21 (Or.inl rfl) i1 ?_
  refine wp_topH (fun h8 e9 => ?_)
  have hb := hb h8 e9
  refine wp_aload_n 0 dX0_clear_20 rfl rfl ?_
  refine wp_iconst (v := 0) dX0_clear_21 (by decide) ?_
  refine wp_putI dX0_clear_22 fl_X0_24 (Or.inl rfl) i1 ?_
  refine wp_topH (fun h10 e11 => ?_)
  have hb := hb h10 e11
  refine wp_aload_n 0 dX0_clear_25 rfl rfl ?_
  refine wp_iconst (v := 0) dX0_clear_26 (by decide) ?_
  refine wp_putI dX0_clear_27 fl_X0_27 (Or.inl rfl) i1 ?_
  refine wp_topH (fun h12 e13 => ?_)
  have hb := hb h12 e13
  refine wp_aload_n 0 dX0_clear_30 rfl rfl ?_
  refine wp_lconst (v := 0) dX0_clear_31 (by decide) ?_
  refine wp_putL dX0_clear_32 fl_X0_30 (Or.inl rfl) i1 ?_
  refine wp_topH (fun h14 e15 => ?_)
  have hb := hb h14 e15
  exact wp_vret rfl dX0_clear_35 ⟨rfl, hb⟩
theorem c_X0_clear {l : Launch} {g : AG} {h : AH} {x0 : Nat}  {Q : AH → Prop} (hb : L_X0_clear_0 l g h x0  Q) : C_X0_clear l g h x0  Q := ax_met rfl (Nat.le_of_ble_eq_true rfl) hb
def C_X8_start (l : Launch) (g : AG) (h : AH) (x0 : Nat) (x1 : Nat) (x2 : Int32)  (Q : AH → Prop) : Prop := Ct l g mX8_start 1 21 194 194 h [.ref x0, .ref x1, .int x2] (ax_QV Q)
def L_X8_start_0 (l : Launch) (g : AG) (h : AH) (x0 : Nat) (x1 : Nat) (x2 : Int32)  (Q : AH → Prop) : Prop := Wp l g mX8_start 1 21 194 194 194 0 [(0, .ref x0), (1, .ref x1), (2, .int x2)] [] h (FM g 194 194 (ax_QV Q))
set_option maxRecDepth 100000 in
set_option maxHeartbeats 4000000 in
theorem s_X8_start_0 {l : Launch} {g : AG} {h : AH} {x0 : Nat} {x1 : Nat} {x2 : Int32}  {Q : AH → Prop} (hb : (Is 194 x0 7) ∧ ( (Is 194 x1 20) ∧ ( ∀ h3 : AH, h3 = ax_setR h x0 0 x1 → ( ∀ v5 : Int32, v5 = (if Int32.ofNat (ax_s x1).2 < x2 then Int32.ofNat (ax_s x1).2 else x2) → ( ∀ h7 : AH, h7 = ax_setI h3 x0 1 v5 → ( ∀ h9 : AH, h9 = ax_setI h7 x0 2 0 → ( Q h9))))))) : L_X8_start_0 l g h x0 x1 x2  Q := by
  obtain ⟨i1, hb⟩ := hb
  refine wp_aload_n 0 dX8_start_0 rfl rfl ?_
  obtain ⟨i2, hb⟩ := hb
  refine wp_aload_n 1 dX8_start_1 rfl rfl ?_
  refine wp_putR dX8_start_2 fl_X8_9 (Or.inl rfl) i1 (i2.ne (by decide)) ?_
  refine wp_topH (fun h3 e4 => ?_)
  have hb := hb h3 e4
  refine wp_aload_n 0 dX8_start_5 rfl rfl ?_
  refine wp_iload_n 2 dX8_start_6 rfl rfl ?_
  refine wp_aload_n 1 dX8_start_7 rfl rfl ?_
  refine wp_alen dX8_start_8 i2 (by decide) rfl ?_
  refine wp_mmin dX8_start_9 lk_X8_35 (Nat.le_of_ble_eq_true rfl) (by decide) (by decide) (by decide) ?_
  refine wp_topi (fun v5 e6 => ?_)
  have hb := hb v5 e6
  refine wp_putI dX8_start_12 fl_X8_15 (Or.inl rfl) i1 ?_
  refine wp_topH (fun h7 e8 => ?_)
  have hb := hb h7 e8
  refine wp_aload_n 0 dX8_start_15 rfl rfl ?_
  refine wp_iconst (v := 0) dX8_start_16 (by decide) ?_
  refine wp_putI dX8_start_17 fl_X8_19 (Or.inl rfl) i1 ?_
  refine wp_topH (fun h9 e10 => ?_)
  have hb := hb h9 e10
  exact wp_vret rfl dX8_start_20 ⟨rfl, hb⟩
theorem c_X8_start {l : Launch} {g : AG} {h : AH} {x0 : Nat} {x1 : Nat} {x2 : Int32}  {Q : AH → Prop} (hb : L_X8_start_0 l g h x0 x1 x2  Q) : C_X8_start l g h x0 x1 x2  Q := ax_met rfl (Nat.le_of_ble_eq_true rfl) hb
