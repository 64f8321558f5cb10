def C_X9_wind (l : Launch) (g : AG) (h : AH) (x0 : Nat) (x1 : Int32)  (Q : AH → Prop) : Prop := Ct l g mX9_wind 0 0 194 194 h [.ref x0, .int x1] (ax_QV Q)
def L_X9_wind_0 (l : Launch) (g : AG) (h : AH) (x0 : Nat) (x1 : Int32)  (Q : AH → Prop) : Prop := Wp l g mX9_wind 0 0 194 194 194 0 [(0, .ref x0), (1, .int x1)] [] h (FM g 194 194 (ax_QV Q))
def L_X9_wind_3 (l : Launch) (g : AG) (h : AH) (x0 : Nat) (x1 : Int32) (x2 : Int32)  (Q : AH → Prop) : Prop := Wp l g mX9_wind 0 0 194 194 194 3 [(0, .ref x0), (1, .int x1), (2, .int x2)] [] h (FM g 194 194 (ax_QV Q))
set_option maxRecDepth 100000 in
set_option maxHeartbeats 4000000 in
theorem s_X9_wind_0 {l : Launch} {g : AG} {h : AH} {x0 : Nat} {x1 : Int32}  {Q : AH → Prop} (hb : L_X9_wind_3 l g h x0 x1 24  Q) : L_X9_wind_0 l g h x0 x1  Q := by
  refine wp_bipush (v := 24) dX9_wind_0 (by decide) ?_
  refine wp_istore_n (lv2 := [(2, .int 24), (0, .ref x0), (1, .int x1)]) dX9_wind_2 rfl (by decide) rfl ?_
  exact wp_sub [1, 2, 0] rfl hb
set_option maxRecDepth 100000 in
set_option maxHeartbeats 4000000 in
theorem s_X9_wind_3 {l : Launch} {g : AG} {h : AH} {x0 : Nat} {x1 : Int32} {x2 : Int32}  {Q : AH → Prop} (hb : ((x2 < 0 → (Q h)) ∧ (¬ (x2 < 0) → ((Is 194 x0 8) ∧ ( ((800 ≤ h.1 x0 1 → (Q h)) ∧ (¬ (800 ≤ h.1 x0 1) → ((Is 194 (h.2.2 x0 0) 20) ∧ ( (vp_in (h.1 x0 1) (ax_s (h.2.2 x0 0)).2) ∧ ( ∀ h6 : AH, h6 = ax_setI h (h.2.2 x0 0) (h.1 x0 1).toNatClampNeg ((jiushr x1 x2) &&& 255) → ( ∀ h8 : AH, h8 = ax_setI h6 x0 1 ((h6.1 x0 1) + 1) → ( ∀ v10 : Int32, v10 = x2 + (-8) → ( L_X9_wind_3 l g h8 x0 x1 v10  Q))))))))))))) : L_X9_wind_3 l g h x0 x1 x2  Q := by
  refine wp_iload_n 2 dX9_wind_3 rfl rfl ?_
  refine wp_if_lt (tgt := 49) dX9_wind_4 (by decide) (fun c1 => ?_) (fun c1 => ?_)
  · have hb := hb.1 c1
    exact wp_vret rfl dX9_wind_49 ⟨rfl, hb⟩
  · have hb := hb.2 c1
    obtain ⟨i2, hb⟩ := hb
    refine wp_aload_n 0 dX9_wind_7 rfl rfl ?_
    refine wp_getI dX9_wind_8 fl_X9_13 i2 ?_
    refine wp_sipush (v := 800) dX9_wind_11 (by decide) ?_
    refine wp_icmp_ge (tgt := 49) dX9_wind_14 (by decide) (fun c3 => ?_) (fun c3 => ?_)
    · have hb := hb.1 c3
      exact wp_vret rfl dX9_wind_49 ⟨rfl, hb⟩
    · have hb := hb.2 c3
      refine wp_aload_n 0 dX9_wind_17 rfl rfl ?_
      obtain ⟨i4, hb⟩ := hb
      refine wp_getR dX9_wind_18 fl_X9_9 i2 (i4.ne (by decide)) ?_
      refine wp_aload_n 0 dX9_wind_21 rfl rfl ?_
      refine wp_getI dX9_wind_22 fl_X9_13 i2 ?_
      refine wp_iload_n 1 dX9_wind_25 rfl rfl ?_
      refine wp_iload_n 2 dX9_wind_26 rfl rfl ?_
      refine wp_iushr dX9_wind_27 ?_
      refine wp_sipush (v := 255) dX9_wind_28 (by decide) ?_
      refine wp_iand dX9_wind_31 ?_
      obtain ⟨b5, hb⟩ := hb
      refine wp_iastore dX9_wind_32 i4 b5 ?_
      refine wp_topH (fun h6 e7 => ?_)
      have hb := hb h6 e7
      refine wp_aload_n 0 dX9_wind_33 rfl rfl ?_
      refine wp_dup dX9_wind_34 rfl ?_
      refine wp_getI dX9_wind_35 fl_X9_13 i2 ?_
      refine wp_iconst (v := 1) dX9_wind_38 (by decide) ?_
      refine wp_iadd dX9_wind_39 ?_
      refine wp_putI dX9_wind_40 fl_X9_13 (Or.inl rfl) i2 ?_
      refine wp_topH (fun h8 e9 => ?_)
      have hb := hb h8 e9
      obtain ⟨v10, e11⟩ : ∃ y : Int32, y = x2 + (-8) := ⟨_, rfl⟩
      have hb := hb v10 e11
      refine wp_iinc (v := v10) (lv2 := [(2, .int v10), (0, .ref x0), (1, .int x1)]) 2 dX9_wind_43 rfl (by rw [e11]; rfl) (by decide) rfl ?_
      refine wp_goto (tgt := 3) dX9_wind_46 (by decide) ?_
      exact wp_sub [1, 2, 0] rfl hb
theorem c_X9_wind {l : Launch} {g : AG} {h : AH} {x0 : Nat} {x1 : Int32}  {Q : AH → Prop} (hb : L_X9_wind_0 l g h x0 x1  Q) : C_X9_wind l g h x0 x1  Q := ax_met rfl rfl (Nat.le_of_ble_eq_true rfl) hb
def C_X9_feed (l : Launch) (g : AG) (h : AH) (x0 : Nat) (x1 : Int32) (x2 : Int32) (x3 : Int32) (x4 : Int32) (x5 : Int32)  (Q : Int32 → AH → Prop) : Prop := Ct l g mX9_feed 1 22 194 194 h [.ref x0, .int x1, .int x2, .int x3, .int x4, .int x5] (ax_QI Q)
def L_X9_feed_0 (l : Launch) (g : AG) (h : AH) (x0 : Nat) (x1 : Int32) (x2 : Int32) (x3 : Int32) (x4 : Int32) (x5 : Int32)  (Q : Int32 → AH → Prop) : Prop := Wp l g mX9_feed 1 22 194 194 194 0 [(0, .ref x0), (1, .int x1), (2, .int x2), (3, .int x3), (4, .int x4), (5, .int x5)] [] h (FM g 194 194 (ax_QI Q))
set_option maxRecDepth 100000 in
set_option maxHeartbeats 4000000 in
theorem s_X9_feed_0 {l : Launch} {g : AG} {h : AH} {x0 : Nat} {x1 : Int32} {x2 : Int32} {x3 : Int32} {x4 : Int32} {x5 : Int32}  {Q : Int32 → AH → Prop} (hb : (Is 194 x0 8) ∧ ( (((h.1 x0 1) + 20 ≤ 800 → (C_X9_wind l g h x0 x1 (fun h4 => ( C_X9_wind l g h4 x0 x2 (fun h6 => ( C_X9_wind l g h6 x0 x3 (fun h8 => ( C_X9_wind l g h8 x0 x4 (fun h10 => ( C_X9_wind l g h10 x0 x5 (fun h12 => ( Q (h12.1 x0 1) h12)))))))))))) ∧ (¬ ((h.1 x0 1) + 20 ≤ 800) → (Q (-1) h))))) : L_X9_feed_0 l g h x0 x1 x2 x3 x4 x5  Q := by
  obtain ⟨i1, hb⟩ := hb
  refine wp_aload_n 0 dX9_feed_0 rfl rfl ?_
  refine wp_getI dX9_feed_1 fl_X9_13 i1 ?_
  refine wp_bipush (v := 20) dX9_feed_4 (by decide) ?_
  refine wp_iadd dX9_feed_6 ?_
  refine wp_sipush (v := 800) dX9_feed_7 (by decide) ?_
  refine wp_icmp_le (tgt := 15) dX9_feed_10 (by decide) (fun c2 => ?_) (fun c2 => ?_)
  · have hb := hb.1 c2
    refine wp_aload_n 0 dX9_feed_15 rfl rfl ?_
    refine wp_iload_n 1 dX9_feed_16 rfl rfl ?_
    refine wp_callV (as := [.int x1]) dX9_feed_17 cb_X9_wind lk_X9_72 im_X9_wind se_X9_wind rfl (Nat.le_of_ble_eq_true rfl) ⟨by decide, by decide⟩ ⟨Nat.le_refl _, Nat.le_refl _, Nat.le_refl _⟩ i1 rfl (by decide) hb (fun r0 h4 hb => ?_)
    obtain ⟨rfl, hb⟩ := hb
    refine wp_aload_n 0 dX9_feed_20 rfl rfl ?_
    refine wp_iload_n 2 dX9_feed_21 rfl rfl ?_
    refine wp_callV (as := [.int x2]) dX9_feed_22 cb_X9_wind lk_X9_72 im_X9_wind se_X9_wind rfl (Nat.le_of_ble_eq_true rfl) ⟨by decide, by decide⟩ ⟨Nat.le_refl _, Nat.le_refl _, Nat.le_refl _⟩ i1 rfl (by decide) hb (fun r0 h6 hb => ?_)
    obtain ⟨rfl, hb⟩ := hb
    refine wp_aload_n 0 dX9_feed_25 rfl rfl ?_
    refine wp_iload_n 3 dX9_feed_26 rfl rfl ?_
    refine wp_callV (as := [.int x3]) dX9_feed_27 cb_X9_wind lk_X9_72 im_X9_wind se_X9_wind rfl (Nat.le_of_ble_eq_true rfl) ⟨by decide, by decide⟩ ⟨Nat.le_refl _, Nat.le_refl _, Nat.le_refl _⟩ i1 rfl (by decide) hb (fun r0 h8 hb => ?_)
    obtain ⟨rfl, hb⟩ := hb
    refine wp_aload_n 0 dX9_feed_30 rfl rfl ?_
    refine wp_iload 4 dX9_feed_31 rfl ?_
    refine wp_callV (as := [.int x4]) dX9_feed_33 cb_X9_wind lk_X9_72 im_X9_wind se_X9_wind rfl (Nat.le_of_ble_eq_true rfl) ⟨by decide, by decide⟩ ⟨Nat.le_refl _, Nat.le_refl _, Nat.le_refl _⟩ i1 rfl (by decide) hb (fun r0 h10 hb => ?_)
    obtain ⟨rfl, hb⟩ := hb
    refine wp_aload_n 0 dX9_feed_36 rfl rfl ?_
    refine wp_iload 5 dX9_feed_37 rfl ?_
    refine wp_callV (as := [.int x5]) dX9_feed_39 cb_X9_wind lk_X9_72 im_X9_wind se_X9_wind rfl (Nat.le_of_ble_eq_true rfl) ⟨by decide, by decide⟩ ⟨Nat.le_refl _, Nat.le_refl _, Nat.le_refl _⟩ i1 rfl (by decide) hb (fun r0 h12 hb => ?_)
    obtain ⟨rfl, hb⟩ := hb
    refine wp_aload_n 0 dX9_feed_42 rfl rfl ?_
    refine wp_getI dX9_feed_43 fl_X9_13 i1 ?_
    exact wp_iret rfl dX9_feed_46 ⟨_, rfl, hb⟩
  · have hb := hb.2 c2
    refine wp_iconst (v := (-1)) dX9_feed_13 (by decide) ?_
    exact wp_iret rfl dX9_feed_14 ⟨_, rfl, hb⟩
theorem c_X9_feed {l : Launch} {g : AG} {h : AH} {x0 : Nat} {x1 : Int32} {x2 : Int32} {x3 : Int32} {x4 : Int32} {x5 : Int32}  {Q : Int32 → AH → Prop} (hb : L_X9_feed_0 l g h x0 x1 x2 x3 x4 x5  Q) : C_X9_feed l g h x0 x1 x2 x3 x4 x5  Q := ax_met rfl rfl (Nat.le_of_ble_eq_true rfl) hb
def C_X9_refused (l : Launch) (g : AG) (h : AH) (x0 : Nat) (x1 : Int32)  (Q : Int32 → AH → Prop) : Prop := Ct l g mX9_refused 0 0 194 194 h [.ref x0, .int x1] (ax_QI Q)
def L_X9_refused_0 (l : Launch) (g : AG) (h : AH) (x0 : Nat) (x1 : Int32)  (Q : Int32 → AH → Prop) : Prop := Wp l g mX9_refused 0 0 194 194 194 0 [(0, .ref x0), (1, .int x1)] [] h (FM g 194 194 (ax_QI Q))
set_option maxRecDepth 100000 in
set_option maxHeartbeats 4000000 in
theorem s_X9_refused_0 {l : Launch} {g : AG} {h : AH} {x0 : Nat} {x1 : Int32}  {Q : Int32 → AH → Prop} (hb : (Is 194 x0 8) ∧ ( ∀ h2 : AH, h2 = ax_setI h x0 12 x1 → ( Q (-1) h2))) : L_X9_refused_0 l g h x0 x1  Q := by
  obtain ⟨i1, hb⟩ := hb
  refine wp_aload_n 0 dX9_refused_0 rfl rfl ?_
  refine wp_iload_n 1 dX9_refused_1 rfl rfl ?_
  refine wp_putI dX9_refused_2 fl_X9_69 (Or.inl rfl) i1 ?_
  refine wp_topH (fun h2 e3 => ?_)
  have hb := hb h2 e3
  refine wp_iconst (v := (-1)) dX9_refused_5 (by decide) ?_
  exact wp_iret rfl dX9_refused_6 ⟨_, rfl, hb⟩
theorem c_X9_refused {l : Launch} {g : AG} {h : AH} {x0 : Nat} {x1 : Int32}  {Q : Int32 → AH → Prop} (hb : L_X9_refused_0 l g h x0 x1  Q) : C_X9_refused l g h x0 x1  Q := ax_met rfl rfl (Nat.le_of_ble_eq_true rfl) hb
def C_X0_clear (l : Launch) (g : AG) (h : AH) (x0 : Nat)  (Q : AH → Prop) : Prop := Ct l g mX0_clear 0 0 194 194 h [.ref x0] (ax_QV Q)
def L_X0_clear_0 (l : Launch) (g : AG) (h : AH) (x0 : Nat)  (Q : AH → Prop) : Prop := Wp l g mX0_clear 0 0 194 194 194 0 [(0, .ref x0)] [] h (FM g 194 194 (ax_QV Q))
set_option maxRecDepth 100000 in
set_option maxHeartbeats 4000000 in
theorem s_X0_clear_0 {l : Launch} {g : AG} {h : AH} {x0 : Nat}  {Q : AH → Prop} (hb : (Is 194 x0 0) ∧ ( ∀ h2 : AH, h2 = ax_setI h x0 0 0 → ( ∀ h4 : AH, h4 = ax_setI h2 x0 1 0 → ( ∀ h6 : AH, h6 = ax_setI h4 x0 2 0 → ( ∀ h8 : AH, h8 = ax_setI h6 x0 3 0 → ( ∀ h10 : AH, h10 = ax_setI h8 x0 4 0 → ( ∀ h12 : AH, h12 = ax_setI h10 x0 5 0 → ( ∀ h14 : AH, h14 = ax_setL h12 x0 6 0 → ( Q h14))))))))) : L_X0_clear_0 l g h x0  Q := by
  obtain ⟨i1, hb⟩ := hb
  refine wp_aload_n 0 dX0_clear_0 rfl rfl ?_
  refine wp_iconst (v := 0) dX0_clear_1 (by decide) ?_
  refine wp_putI dX0_clear_2 fl_X0_9 (Or.inl rfl) i1 ?_
  refine wp_topH (fun h2 e3 => ?_)
  have hb := hb h2 e3
  refine wp_aload_n 0 dX0_clear_5 rfl rfl ?_
  refine wp_iconst (v := 0) dX0_clear_6 (by decide) ?_
  refine wp_putI dX0_clear_7 fl_X0_15 (Or.inl rfl) i1 ?_
  refine wp_topH (fun h4 e5 => ?_)
  have hb := hb h4 e5
  refine wp_aload_n 0 dX0_clear_10 rfl rfl ?_
  refine wp_iconst (v := 0) dX0_clear_11 (by decide) ?_
  refine wp_putI dX0_clear_12 fl_X0_18 (Or.inl rfl) i1 ?_
  refine wp_topH (fun h6 e7 => ?_)
  have hb := hb h6 e7
  refine wp_aload_n 0 dX0_clear_15 rfl rfl ?_
  refine wp_iconst (v := 0) dX0_clear_16 (by decide) ?_
  refine wp_putI dX0_clear_17 fl_X0_21 (Or.inl rfl) i1 ?_
  refine wp_topH (fun h8 e9 => ?_)
  have hb := hb h8 e9
  refine wp_aload_n 0 dX0_clear_20 rfl rfl ?_
  refine wp_iconst (v := 0) dX0_clear_21 (by decide) ?_
  refine wp_putI dX0_clear_22 fl_X0_24 (Or.inl rfl) i1 ?_
  refine wp_topH (fun h10 e11 => ?_)
  have hb := hb h10 e11
  refine wp_aload_n 0 dX0_clear_25 rfl rfl ?_
  refine wp_iconst (v := 0) dX0_clear_26 (by decide) ?_
  refine wp_putI dX0_clear_27 fl_X0_27 (Or.inl rfl) i1 ?_
  refine wp_topH (fun h12 e13 => ?_)
  have hb := hb h12 e13
  refine wp_aload_n 0 dX0_clear_30 rfl rfl ?_
  refine wp_lconst (v := 0) dX0_clear_31 (by decide) ?_
  refine wp_putL dX0_clear_32 fl_X0_30 (Or.inl rfl) i1 ?_
  refine wp_topH (fun h14 e15 => ?_)
  have hb := hb h14 e15
  exact wp_vret rfl dX0_clear_35 ⟨rfl, hb⟩
theorem c_X0_clear {l : Launch} {g : AG} {h : AH} {x0 : Nat}  {Q : AH → Prop} (hb : L_X0_clear_0 l g h x0  Q) : C_X0_clear l g h x0  Q := ax_met rfl rfl (Nat.le_of_ble_eq_true rfl) hb
def C_X8_start (l : Launch) (g : AG) (h : AH) (x0 : Nat) (x1 : Nat) (x2 : Int32)  (Q : AH → Prop) : Prop := Ct l g mX8_start 1 21 194 194 h [.ref x0, .ref x1, .int x2] (ax_QV Q)
def L_X8_start_0 (l : Launch) (g : AG) (h : AH) (x0 : Nat) (x1 : Nat) (x2 : Int32)  (Q : AH → Prop) : Prop := Wp l g mX8_start 1 21 194 194 194 0 [(0, .ref x0), (1, .ref x1), (2, .int x2)] [] h (FM g 194 194 (ax_QV Q))
set_option maxRecDepth 100000 in
set_option maxHeartbeats 4000000 in
theorem s_X8_start_0 {l : Launch} {g : AG} {h : AH} {x0 : Nat} {x1 : Nat} {x2 : Int32}  {Q : AH → Prop} (hb : (Is 194 x0 7) ∧ ( (Is 194 x1 20) ∧ ( ∀ h3 : AH, h3 = ax_setR h x0 0 x1 → ( ∀ v5 : Int32, v5 = (if Int32.ofNat (ax_s x1).2 < x2 then Int32.ofNat (ax_s x1).2 else x2) → ( ∀ h7 : AH, h7 = ax_setI h3 x0 1 v5 → ( ∀ h9 : AH, h9 = ax_setI h7 x0 2 0 → ( Q h9))))))) : L_X8_start_0 l g h x0 x1 x2  Q := by
  obtain ⟨i1, hb⟩ := hb
  refine wp_aload_n 0 dX8_start_0 rfl rfl ?_
  obtain ⟨i2, hb⟩ := hb
  refine wp_aload_n 1 dX8_start_1 rfl rfl ?_
  refine wp_putR dX8_start_2 fl_X8_9 (Or.inl rfl) i1 (i2.ne (by decide)) ?_
  refine wp_topH (fun h3 e4 => ?_)
  have hb := hb h3 e4
  refine wp_aload_n 0 dX8_start_5 rfl rfl ?_
  refine wp_iload_n 2 dX8_start_6 rfl rfl ?_
  refine wp_aload_n 1 dX8_start_7 rfl rfl ?_
  refine wp_alen dX8_start_8 i2 (by decide) rfl ?_
  refine wp_mmin dX8_start_9 lk_X8_35 (Nat.le_of_ble_eq_true rfl) (by decide) (by decide) (by decide) ?_
  refine wp_topi (fun v5 e6 => ?_)
  have hb := hb v5 e6
  refine wp_putI dX8_start_12 fl_X8_15 (Or.inl rfl) i1 ?_
  refine wp_topH (fun h7 e8 => ?_)
  have hb := hb h7 e8
  refine wp_aload_n 0 dX8_start_15 rfl rfl ?_
  refine wp_iconst (v := 0) dX8_start_16 (by decide) ?_
  refine wp_putI dX8_start_17 fl_X8_19 (Or.inl rfl) i1 ?_
  refine wp_topH (fun h9 e10 => ?_)
  have hb := hb h9 e10
  exact wp_vret rfl dX8_start_20 ⟨rfl, hb⟩
theorem c_X8_start {l : Launch} {g : AG} {h : AH} {x0 : Nat} {x1 : Nat} {x2 : Int32}  {Q : AH → Prop} (hb : L_X8_start_0 l g h x0 x1 x2  Q) : C_X8_start l g h x0 x1 x2  Q := ax_met rfl rfl (Nat.le_of_ble_eq_true rfl) hb
def C_X8_isLetter (l : Launch) (g : AG) (h : AH) (x0 : Int32)  (Q : Int32 → AH → Prop) : Prop := Ct l g mX8_isLetter 0 0 194 194 h [.int x0] (ax_QI Q)
def L_X8_isLetter_0 (l : Launch) (g : AG) (h : AH) (x0 : Int32)  (Q : Int32 → AH → Prop) : Prop := Wp l g mX8_isLetter 0 0 194 194 194 0 [(0, .int x0)] [] h (FM g 194 194 (ax_QI Q))
set_option maxRecDepth 100000 in
set_option maxHeartbeats 4000000 in
theorem s_X8_isLetter_0 {l : Launch} {g : AG} {h : AH} {x0 : Int32}  {Q : Int32 → AH → Prop} (hb : ((x0 < 97 → (Q 0 h)) ∧ (¬ (x0 < 97) → (((122 < x0 → (Q 0 h)) ∧ (¬ (122 < x0) → (Q 1 h))))))) : L_X8_isLetter_0 l g h x0  Q := by
  refine wp_iload_n 0 dX8_isLetter_0 rfl rfl ?_
  refine wp_bipush (v := 97) dX8_isLetter_1 (by decide) ?_
  refine wp_icmp_lt (tgt := 16) dX8_isLetter_3 (by decide) (fun c1 => ?_) (fun c1 => ?_)
  · have hb := hb.1 c1
    refine wp_iconst (v := 0) dX8_isLetter_16 (by decide) ?_
    exact wp_zret rfl dX8_isLetter_17 (Or.inl rfl) ⟨_, rfl, hb⟩
  · have hb := hb.2 c1
    refine wp_iload_n 0 dX8_isLetter_6 rfl rfl ?_
    refine wp_bipush (v := 122) dX8_isLetter_7 (by decide) ?_
    refine wp_icmp_gt (tgt := 16) dX8_isLetter_9 (by decide) (fun c2 => ?_) (fun c2 => ?_)
    · have hb := hb.1 c2
      refine wp_iconst (v := 0) dX8_isLetter_16 (by decide) ?_
      exact wp_zret rfl dX8_isLetter_17 (Or.inl rfl) ⟨_, rfl, hb⟩
    · have hb := hb.2 c2
      refine wp_iconst (v := 1) dX8_isLetter_12 (by decide) ?_
      refine wp_goto (tgt := 17) dX8_isLetter_13 (by decide) ?_
      exact wp_zret rfl dX8_isLetter_17 (Or.inr rfl) ⟨_, rfl, hb⟩
theorem c_X8_isLetter {l : Launch} {g : AG} {h : AH} {x0 : Int32}  {Q : Int32 → AH → Prop} (hb : L_X8_isLetter_0 l g h x0  Q) : C_X8_isLetter l g h x0  Q := ax_met rfl rfl (Nat.le_of_ble_eq_true rfl) hb
def C_X8_goOverWord (l : Launch) (g : AG) (h : AH) (x0 : Nat)  (Q : AH → Prop) : Prop := Ct l g mX8_goOverWord 1 20 194 194 h [.ref x0] (ax_QV Q)
def L_X8_goOverWord_0 (l : Launch) (g : AG) (h : AH) (x0 : Nat)  (Q : AH → Prop) : Prop := Wp l g mX8_goOverWord 1 20 194 194 194 0 [(0, .ref x0)] [] h (FM g 194 194 (ax_QV Q))
def L_X8_goOverWord_5 (l : Launch) (g : AG) (h : AH) (x0 : Nat)  (Q : AH → Prop) : Prop := Wp l g mX8_goOverWord 1 20 194 194 194 5 [(0, .ref x0)] [] h (FM g 194 194 (ax_QV Q))
def L_X8_goOverWord_66 (l : Launch) (g : AG) (h : AH) (x0 : Nat)  (Q : AH → Prop) : Prop := Wp l g mX8_goOverWord 1 20 194 194 194 66 [(0, .ref x0)] [] h (FM g 194 194 (ax_QV Q))
set_option maxRecDepth 100000 in
set_option maxHeartbeats 4000000 in
theorem s_X8_goOverWord_0 {l : Launch} {g : AG} {h : AH} {x0 : Nat}  {Q : AH → Prop} (hb : (Is 194 x0 7) ∧ ( ∀ h2 : AH, h2 = ax_setL h x0 5 0 → ( L_X8_goOverWord_5 l g h2 x0  Q))) : L_X8_goOverWord_0 l g h x0  Q := by
  obtain ⟨i1, hb⟩ := hb
  refine wp_aload_n 0 dX8_goOverWord_0 rfl rfl ?_
  refine wp_lconst (v := 0) dX8_goOverWord_1 (by decide) ?_
  refine wp_putL dX8_goOverWord_2 fl_X8_28 (Or.inl rfl) i1 ?_
  refine wp_topH (fun h2 e3 => ?_)
  have hb := hb h2 e3
  exact hb
set_option maxRecDepth 100000 in
set_option maxHeartbeats 4000000 in
theorem s_X8_goOverWord_5 {l : Launch} {g : AG} {h : AH} {x0 : Nat}  {Q : AH → Prop} (hb : (Is 194 x0 7) ∧ ( ((h.1 x0 1 ≤ h.1 x0 2 → (L_X8_goOverWord_66 l g h x0  Q)) ∧ (¬ (h.1 x0 1 ≤ h.1 x0 2) → ((Is 194 (h.2.2 x0 0) 20) ∧ ( (vp_in (h.1 x0 2) (ax_s (h.2.2 x0 0)).2) ∧ ( C_X8_isLetter l g h (h.1 (h.2.2 x0 0) (h.1 x0 2).toNatClampNeg) (fun r10 h9 => ( ((r10 = 0 → (L_X8_goOverWord_66 l g h9 x0  Q)) ∧ (¬ (r10 = 0) → ((Is 194 (h9.2.2 x0 0) 20) ∧ ( (vp_in (h9.1 x0 2) (ax_s (h9.2.2 x0 0)).2) ∧ ( ∀ v14 : Int64, v14 = ((jlshl (h9.2.1 x0 5) 8) ||| ((h9.1 (h9.2.2 x0 0) (h9.1 x0 2).toNatClampNeg).toInt64)) → ( ∀ h16 : AH, h16 = ax_setL h9 x0 5 v14 → ( ∀ h18 : AH, h18 = ax_setI h16 x0 2 ((h16.1 x0 2) + 1) → ( L_X8_goOverWord_5 l g h18 x0  Q))))))))))))))))) : L_X8_goOverWord_5 l g h x0  Q := by
  obtain ⟨i4, hb⟩ := hb
  refine wp_aload_n 0 dX8_goOverWord_5 rfl rfl ?_
  refine wp_getI dX8_goOverWord_6 fl_X8_19 i4 ?_
  refine wp_aload_n 0 dX8_goOverWord_9 rfl rfl ?_
  refine wp_getI dX8_goOverWord_10 fl_X8_15 i4 ?_
  refine wp_icmp_ge (tgt := 66) dX8_goOverWord_13 (by decide) (fun c5 => ?_) (fun c5 => ?_)
  · have hb := hb.1 c5
    exact hb
  · have hb := hb.2 c5
    refine wp_aload_n 0 dX8_goOverWord_16 rfl rfl ?_
    obtain ⟨i6, hb⟩ := hb
    refine wp_getR dX8_goOverWord_17 fl_X8_9 i4 (i6.ne (by decide)) ?_
    refine wp_aload_n 0 dX8_goOverWord_20 rfl rfl ?_
    refine wp_getI dX8_goOverWord_21 fl_X8_19 i4 ?_
    obtain ⟨b7, hb⟩ := hb
    refine wp_iaload dX8_goOverWord_24 i6 b7 ?_
    refine wp_callS (as := [.int (h.1 (h.2.2 x0 0) (h.1 x0 2).toNatClampNeg)]) dX8_goOverWord_25 cb_X8_isLetter lk_X8_41 st_X8_isLetter rfl (Nat.le_of_ble_eq_true rfl) ⟨by decide, by decide⟩ ⟨Nat.le_refl _, Nat.le_refl _, Nat.le_refl _⟩ hb (fun r0 h9 hb => ?_)
    obtain ⟨r10, rfl, hb⟩ := hb
    refine wp_if_eq (tgt := 66) dX8_goOverWord_28 (by decide) (fun c11 => ?_) (fun c11 => ?_)
    · have hb := hb.1 c11
      exact hb
    · have hb := hb.2 c11
      refine wp_aload_n 0 dX8_goOverWord_31 rfl rfl ?_
      refine wp_aload_n 0 dX8_goOverWord_32 rfl rfl ?_
      refine wp_getL dX8_goOverWord_33 fl_X8_28 i4 ?_
      refine wp_bipush (v := 8) dX8_goOverWord_36 (by decide) ?_
      refine wp_lshl dX8_goOverWord_38 ?_
      refine wp_aload_n 0 dX8_goOverWord_39 rfl rfl ?_
      obtain ⟨i12, hb⟩ := hb
      refine wp_getR dX8_goOverWord_40 fl_X8_9 i4 (i12.ne (by decide)) ?_
      refine wp_aload_n 0 dX8_goOverWord_43 rfl rfl ?_
      refine wp_getI dX8_goOverWord_44 fl_X8_19 i4 ?_
      obtain ⟨b13, hb⟩ := hb
      refine wp_iaload dX8_goOverWord_47 i12 b13 ?_
      refine wp_i2l dX8_goOverWord_48 ?_
      refine wp_lor dX8_goOverWord_49 ?_
      refine wp_topl (fun v14 e15 => ?_)
      have hb := hb v14 e15
      refine wp_putL dX8_goOverWord_50 fl_X8_28 (Or.inl rfl) i4 ?_
      refine wp_topH (fun h16 e17 => ?_)
      have hb := hb h16 e17
      refine wp_aload_n 0 dX8_goOverWord_53 rfl rfl ?_
      refine wp_dup dX8_goOverWord_54 rfl ?_
      refine wp_getI dX8_goOverWord_55 fl_X8_19 i4 ?_
      refine wp_iconst (v := 1) dX8_goOverWord_58 (by decide) ?_
      refine wp_iadd dX8_goOverWord_59 ?_
      refine wp_putI dX8_goOverWord_60 fl_X8_19 (Or.inl rfl) i4 ?_
      refine wp_topH (fun h18 e19 => ?_)
      have hb := hb h18 e19
      refine wp_goto (tgt := 5) dX8_goOverWord_63 (by decide) ?_
      exact hb
set_option maxRecDepth 100000 in
set_option maxHeartbeats 4000000 in
theorem s_X8_goOverWord_66 {l : Launch} {g : AG} {h : AH} {x0 : Nat}  {Q : AH → Prop} (hb : (Is 194 x0 7) ∧ ( (((h.1 x0 2) - (h.1 x0 4) ≤ 8 → (∀ h22 : AH, h22 = ax_setI h x0 3 1 → ( Q h22))) ∧ (¬ ((h.1 x0 2) - (h.1 x0 4) ≤ 8) → (∀ h24 : AH, h24 = ax_setI h x0 3 3 → ( Q h24)))))) : L_X8_goOverWord_66 l g h x0  Q := by
  obtain ⟨i20, hb⟩ := hb
  refine wp_aload_n 0 dX8_goOverWord_66 rfl rfl ?_
  refine wp_aload_n 0 dX8_goOverWord_67 rfl rfl ?_
  refine wp_getI dX8_goOverWord_68 fl_X8_19 i20 ?_
  refine wp_aload_n 0 dX8_goOverWord_71 rfl rfl ?_
  refine wp_getI dX8_goOverWord_72 fl_X8_25 i20 ?_
  refine wp_isub dX8_goOverWord_75 ?_
  refine wp_bipush (v := 8) dX8_goOverWord_76 (by decide) ?_
  refine wp_icmp_le (tgt := 85) dX8_goOverWord_78 (by decide) (fun c21 => ?_) (fun c21 => ?_)
  · have hb := hb.1 c21
    refine wp_iconst (v := 1) dX8_goOverWord_85 (by decide) ?_
    refine wp_putI dX8_goOverWord_86 fl_X8_22 (Or.inl rfl) i20 ?_
    refine wp_topH (fun h22 e23 => ?_)
    have hb := hb h22 e23
    exact wp_vret rfl dX8_goOverWord_89 ⟨rfl, hb⟩
  · have hb := hb.2 c21
    refine wp_iconst (v := 3) dX8_goOverWord_81 (by decide) ?_
    refine wp_goto (tgt := 86) dX8_goOverWord_82 (by decide) ?_
    refine wp_putI dX8_goOverWord_86 fl_X8_22 (Or.inl rfl) i20 ?_
    refine wp_topH (fun h24 e25 => ?_)
    have hb := hb h24 e25
    exact wp_vret rfl dX8_goOverWord_89 ⟨rfl, hb⟩
theorem c_X8_goOverWord {l : Launch} {g : AG} {h : AH} {x0 : Nat}  {Q : AH → Prop} (hb : L_X8_goOverWord_0 l g h x0  Q) : C_X8_goOverWord l g h x0  Q := ax_met rfl rfl (Nat.le_of_ble_eq_true rfl) hb
def C_X8_isDigit (l : Launch) (g : AG) (h : AH) (x0 : Int32)  (Q : Int32 → AH → Prop) : Prop := Ct l g mX8_isDigit 0 0 194 194 h [.int x0] (ax_QI Q)
def L_X8_isDigit_0 (l : Launch) (g : AG) (h : AH) (x0 : Int32)  (Q : Int32 → AH → Prop) : Prop := Wp l g mX8_isDigit 0 0 194 194 194 0 [(0, .int x0)] [] h (FM g 194 194 (ax_QI Q))
set_option maxRecDepth 100000 in
set_option maxHeartbeats 4000000 in
theorem s_X8_isDigit_0 {l : Launch} {g : AG} {h : AH} {x0 : Int32}  {Q : Int32 → AH → Prop} (hb : ((x0 < 48 → (Q 0 h)) ∧ (¬ (x0 < 48) → (((57 < x0 → (Q 0 h)) ∧ (¬ (57 < x0) → (Q 1 h))))))) : L_X8_isDigit_0 l g h x0  Q := by
  refine wp_iload_n 0 dX8_isDigit_0 rfl rfl ?_
  refine wp_bipush (v := 48) dX8_isDigit_1 (by decide) ?_
  refine wp_icmp_lt (tgt := 16) dX8_isDigit_3 (by decide) (fun c1 => ?_) (fun c1 => ?_)
  · have hb := hb.1 c1
    refine wp_iconst (v := 0) dX8_isDigit_16 (by decide) ?_
    exact wp_zret rfl dX8_isDigit_17 (Or.inl rfl) ⟨_, rfl, hb⟩
  · have hb := hb.2 c1
    refine wp_iload_n 0 dX8_isDigit_6 rfl rfl ?_
    refine wp_bipush (v := 57) dX8_isDigit_7 (by decide) ?_
    refine wp_icmp_gt (tgt := 16) dX8_isDigit_9 (by decide) (fun c2 => ?_) (fun c2 => ?_)
    · have hb := hb.1 c2
      refine wp_iconst (v := 0) dX8_isDigit_16 (by decide) ?_
      exact wp_zret rfl dX8_isDigit_17 (Or.inl rfl) ⟨_, rfl, hb⟩
    · have hb := hb.2 c2
      refine wp_iconst (v := 1) dX8_isDigit_12 (by decide) ?_
      refine wp_goto (tgt := 17) dX8_isDigit_13 (by decide) ?_
      exact wp_zret rfl dX8_isDigit_17 (Or.inr rfl) ⟨_, rfl, hb⟩
theorem c_X8_isDigit {l : Launch} {g : AG} {h : AH} {x0 : Int32}  {Q : Int32 → AH → Prop} (hb : L_X8_isDigit_0 l g h x0  Q) : C_X8_isDigit l g h x0  Q := ax_met rfl rfl (Nat.le_of_ble_eq_true rfl) hb
def C_X8_goOverNumber (l : Launch) (g : AG) (h : AH) (x0 : Nat)  (Q : AH → Prop) : Prop := Ct l g mX8_goOverNumber 1 20 194 194 h [.ref x0] (ax_QV Q)
def L_X8_goOverNumber_0 (l : Launch) (g : AG) (h : AH) (x0 : Nat)  (Q : AH → Prop) : Prop := Wp l g mX8_goOverNumber 1 20 194 194 194 0 [(0, .ref x0)] [] h (FM g 194 194 (ax_QV Q))
def L_X8_goOverNumber_5 (l : Launch) (g : AG) (h : AH) (x0 : Nat)  (Q : AH → Prop) : Prop := Wp l g mX8_goOverNumber 1 20 194 194 194 5 [(0, .ref x0)] [] h (FM g 194 194 (ax_QV Q))
def L_X8_goOverNumber_68 (l : Launch) (g : AG) (h : AH) (x0 : Nat)  (Q : AH → Prop) : Prop := Wp l g mX8_goOverNumber 1 20 194 194 194 68 [(0, .ref x0)] [] h (FM g 194 194 (ax_QV Q))
set_option maxRecDepth 100000 in
set_option maxHeartbeats 4000000 in
theorem s_X8_goOverNumber_0 {l : Launch} {g : AG} {h : AH} {x0 : Nat}  {Q : AH → Prop} (hb : (Is 194 x0 7) ∧ ( ∀ h2 : AH, h2 = ax_setI h x0 6 0 → ( L_X8_goOverNumber_5 l g h2 x0  Q))) : L_X8_goOverNumber_0 l g h x0  Q := by
  obtain ⟨i1, hb⟩ := hb
  refine wp_aload_n 0 dX8_goOverNumber_0 rfl rfl ?_
  refine wp_iconst (v := 0) dX8_goOverNumber_1 (by decide) ?_
  refine wp_putI dX8_goOverNumber_2 fl_X8_32 (Or.inl rfl) i1 ?_
  refine wp_topH (fun h2 e3 => ?_)
  have hb := hb h2 e3
  exact hb
set_option maxRecDepth 100000 in
set_option maxHeartbeats 4000000 in
theorem s_X8_goOverNumber_5 {l : Launch} {g : AG} {h : AH} {x0 : Nat}  {Q : AH → Prop} (hb : (Is 194 x0 7) ∧ ( ((h.1 x0 1 ≤ h.1 x0 2 → (L_X8_goOverNumber_68 l g h x0  Q)) ∧ (¬ (h.1 x0 1 ≤ h.1 x0 2) → ((Is 194 (h.2.2 x0 0) 20) ∧ ( (vp_in (h.1 x0 2) (ax_s (h.2.2 x0 0)).2) ∧ ( C_X8_isDigit l g h (h.1 (h.2.2 x0 0) (h.1 x0 2).toNatClampNeg) (fun r10 h9 => ( ((r10 = 0 → (L_X8_goOverNumber_68 l g h9 x0  Q)) ∧ (¬ (r10 = 0) → ((Is 194 (h9.2.2 x0 0) 20) ∧ ( (vp_in (h9.1 x0 2) (ax_s (h9.2.2 x0 0)).2) ∧ ( ∀ v14 : Int32, v14 = (((h9.1 x0 6) * 10) + (h9.1 (h9.2.2 x0 0) (h9.1 x0 2).toNatClampNeg)) → ( ∀ h16 : AH, h16 = ax_setI h9 x0 6 (v14 - 48) → ( ∀ h18 : AH, h18 = ax_setI h16 x0 2 ((h16.1 x0 2) + 1) → ( L_X8_goOverNumber_5 l g h18 x0  Q))))))))))))))))) : L_X8_goOverNumber_5 l g h x0  Q := by
  obtain ⟨i4, hb⟩ := hb
  refine wp_aload_n 0 dX8_goOverNumber_5 rfl rfl ?_
  refine wp_getI dX8_goOverNumber_6 fl_X8_19 i4 ?_
  refine wp_aload_n 0 dX8_goOverNumber_9 rfl rfl ?_
  refine wp_getI dX8_goOverNumber_10 fl_X8_15 i4 ?_
  refine wp_icmp_ge (tgt := 68) dX8_goOverNumber_13 (by decide) (fun c5 => ?_) (fun c5 => ?_)
  · have hb := hb.1 c5
    exact hb
  · have hb := hb.2 c5
    refine wp_aload_n 0 dX8_goOverNumber_16 rfl rfl ?_
    obtain ⟨i6, hb⟩ := hb
    refine wp_getR dX8_goOverNumber_17 fl_X8_9 i4 (i6.ne (by decide)) ?_
    refine wp_aload_n 0 dX8_goOverNumber_20 rfl rfl ?_
    refine wp_getI dX8_goOverNumber_21 fl_X8_19 i4 ?_
    obtain ⟨b7, hb⟩ := hb
    refine wp_iaload dX8_goOverNumber_24 i6 b7 ?_
    refine wp_callS (as := [.int (h.1 (h.2.2 x0 0) (h.1 x0 2).toNatClampNeg)]) dX8_goOverNumber_25 cb_X8_isDigit lk_X8_48 st_X8_isDigit rfl (Nat.le_of_ble_eq_true rfl) ⟨by decide, by decide⟩ ⟨Nat.le_refl _, Nat.le_refl _, Nat.le_refl _⟩ hb (fun r0 h9 hb => ?_)
    obtain ⟨r10, rfl, hb⟩ := hb
    refine wp_if_eq (tgt := 68) dX8_goOverNumber_28 (by decide) (fun c11 => ?_) (fun c11 => ?_)
    · have hb := hb.1 c11
      exact hb
    · have hb := hb.2 c11
      refine wp_aload_n 0 dX8_goOverNumber_31 rfl rfl ?_
      refine wp_aload_n 0 dX8_goOverNumber_32 rfl rfl ?_
      refine wp_getI dX8_goOverNumber_33 fl_X8_32 i4 ?_
      refine wp_bipush (v := 10) dX8_goOverNumber_36 (by decide) ?_
      refine wp_imul dX8_goOverNumber_38 ?_
      refine wp_aload_n 0 dX8_goOverNumber_39 rfl rfl ?_
      obtain ⟨i12, hb⟩ := hb
      refine wp_getR dX8_goOverNumber_40 fl_X8_9 i4 (i12.ne (by decide)) ?_
      refine wp_aload_n 0 dX8_goOverNumber_43 rfl rfl ?_
      refine wp_getI dX8_goOverNumber_44 fl_X8_19 i4 ?_
      obtain ⟨b13, hb⟩ := hb
      refine wp_iaload dX8_goOverNumber_47 i12 b13 ?_
      refine wp_iadd dX8_goOverNumber_48 ?_
      refine wp_topi (fun v14 e15 => ?_)
      have hb := hb v14 e15
      refine wp_bipush (v := 48) dX8_goOverNumber_49 (by decide) ?_
      refine wp_isub dX8_goOverNumber_51 ?_
      refine wp_putI dX8_goOverNumber_52 fl_X8_32 (Or.inl rfl) i4 ?_
      refine wp_topH (fun h16 e17 => ?_)
      have hb := hb h16 e17
      refine wp_aload_n 0 dX8_goOverNumber_55 rfl rfl ?_
      refine wp_dup dX8_goOverNumber_56 rfl ?_
      refine wp_getI dX8_goOverNumber_57 fl_X8_19 i4 ?_
      refine wp_iconst (v := 1) dX8_goOverNumber_60 (by decide) ?_
      refine wp_iadd dX8_goOverNumber_61 ?_
      refine wp_putI dX8_goOverNumber_62 fl_X8_19 (Or.inl rfl) i4 ?_
      refine wp_topH (fun h18 e19 => ?_)
      have hb := hb h18 e19
      refine wp_goto (tgt := 5) dX8_goOverNumber_65 (by decide) ?_
      exact hb
set_option maxRecDepth 100000 in
set_option maxHeartbeats 4000000 in
theorem s_X8_goOverNumber_68 {l : Launch} {g : AG} {h : AH} {x0 : Nat}  {Q : AH → Prop} (hb : (Is 194 x0 7) ∧ ( (((h.1 x0 2) - (h.1 x0 4) ≤ 2 → (∀ h22 : AH, h22 = ax_setI h x0 3 2 → ( Q h22))) ∧ (¬ ((h.1 x0 2) - (h.1 x0 4) ≤ 2) → (∀ h24 : AH, h24 = ax_setI h x0 3 3 → ( Q h24)))))) : L_X8_goOverNumber_68 l g h x0  Q := by
  obtain ⟨i20, hb⟩ := hb
  refine wp_aload_n 0 dX8_goOverNumber_68 rfl rfl ?_
  refine wp_aload_n 0 dX8_goOverNumber_69 rfl rfl ?_
  refine wp_getI dX8_goOverNumber_70 fl_X8_19 i20 ?_
  refine wp_aload_n 0 dX8_goOverNumber_73 rfl rfl ?_
  refine wp_getI dX8_goOverNumber_74 fl_X8_25 i20 ?_
  refine wp_isub dX8_goOverNumber_77 ?_
  refine wp_iconst (v := 2) dX8_goOverNumber_78 (by decide) ?_
  refine wp_icmp_le (tgt := 86) dX8_goOverNumber_79 (by decide) (fun c21 => ?_) (fun c21 => ?_)
  · have hb := hb.1 c21
    refine wp_iconst (v := 2) dX8_goOverNumber_86 (by decide) ?_
    refine wp_putI dX8_goOverNumber_87 fl_X8_22 (Or.inl rfl) i20 ?_
    refine wp_topH (fun h22 e23 => ?_)
    have hb := hb h22 e23
    exact wp_vret rfl dX8_goOverNumber_90 ⟨rfl, hb⟩
  · have hb := hb.2 c21
    refine wp_iconst (v := 3) dX8_goOverNumber_82 (by decide) ?_
    refine wp_goto (tgt := 87) dX8_goOverNumber_83 (by decide) ?_
    refine wp_putI dX8_goOverNumber_87 fl_X8_22 (Or.inl rfl) i20 ?_
    refine wp_topH (fun h24 e25 => ?_)
    have hb := hb h24 e25
    exact wp_vret rfl dX8_goOverNumber_90 ⟨rfl, hb⟩
theorem c_X8_goOverNumber {l : Launch} {g : AG} {h : AH} {x0 : Nat}  {Q : AH → Prop} (hb : L_X8_goOverNumber_0 l g h x0  Q) : C_X8_goOverNumber l g h x0  Q := ax_met rfl rfl (Nat.le_of_ble_eq_true rfl) hb
def C_X8_isComparison (l : Launch) (g : AG) (h : AH) (x0 : Int32)  (Q : Int32 → AH → Prop) : Prop := Ct l g mX8_isComparison 0 0 194 194 h [.int x0] (ax_QI Q)
def L_X8_isComparison_0 (l : Launch) (g : AG) (h : AH) (x0 : Int32)  (Q : Int32 → AH → Prop) : Prop := Wp l g mX8_isComparison 0 0 194 194 194 0 [(0, .int x0)] [] h (FM g 194 194 (ax_QI Q))
set_option maxRecDepth 100000 in
set_option maxHeartbeats 4000000 in
theorem s_X8_isComparison_0 {l : Launch} {g : AG} {h : AH} {x0 : Int32}  {Q : Int32 → AH → Prop} (hb : ((x0 = 61 → (Q 1 h)) ∧ (¬ (x0 = 61) → (((x0 = 60 → (Q 1 h)) ∧ (¬ (x0 = 60) → (((¬ x0 = 62 → (Q 0 h)) ∧ (x0 = 62 → (Q 1 h)))))))))) : L_X8_isComparison_0 l g h x0  Q := by
  refine wp_iload_n 0 dX8_isComparison_0 rfl rfl ?_
  refine wp_bipush (v := 61) dX8_isComparison_1 (by decide) ?_
  refine wp_icmp_eq (tgt := 18) dX8_isComparison_3 (by decide) (fun c1 => ?_) (fun c1 => ?_)
  · have hb := hb.1 c1
    refine wp_iconst (v := 1) dX8_isComparison_18 (by decide) ?_
    refine wp_goto (tgt := 23) dX8_isComparison_19 (by decide) ?_
    exact wp_zret rfl dX8_isComparison_23 (Or.inr rfl) ⟨_, rfl, hb⟩
  · have hb := hb.2 c1
    refine wp_iload_n 0 dX8_isComparison_6 rfl rfl ?_
    refine wp_bipush (v := 60) dX8_isComparison_7 (by decide) ?_
    refine wp_icmp_eq (tgt := 18) dX8_isComparison_9 (by decide) (fun c2 => ?_) (fun c2 => ?_)
    · have hb := hb.1 c2
      refine wp_iconst (v := 1) dX8_isComparison_18 (by decide) ?_
      refine wp_goto (tgt := 23) dX8_isComparison_19 (by decide) ?_
      exact wp_zret rfl dX8_isComparison_23 (Or.inr rfl) ⟨_, rfl, hb⟩
    · have hb := hb.2 c2
      refine wp_iload_n 0 dX8_isComparison_12 rfl rfl ?_
      refine wp_bipush (v := 62) dX8_isComparison_13 (by decide) ?_
      refine wp_icmp_ne (tgt := 22) dX8_isComparison_15 (by decide) (fun c3 => ?_) (fun c3 => ?_)
      · have hb := hb.1 c3
        refine wp_iconst (v := 0) dX8_isComparison_22 (by decide) ?_
        exact wp_zret rfl dX8_isComparison_23 (Or.inl rfl) ⟨_, rfl, hb⟩
      · have hb := hb.2 c3
        refine wp_iconst (v := 1) dX8_isComparison_18 (by decide) ?_
        refine wp_goto (tgt := 23) dX8_isComparison_19 (by decide) ?_
        exact wp_zret rfl dX8_isComparison_23 (Or.inr rfl) ⟨_, rfl, hb⟩
theorem c_X8_isComparison {l : Launch} {g : AG} {h : AH} {x0 : Int32}  {Q : Int32 → AH → Prop} (hb : L_X8_isComparison_0 l g h x0  Q) : C_X8_isComparison l g h x0  Q := ax_met rfl rfl (Nat.le_of_ble_eq_true rfl) hb
def C_X8_isSign (l : Launch) (g : AG) (h : AH) (x0 : Int32)  (Q : Int32 → AH → Prop) : Prop := Ct l g mX8_isSign 1 20 194 194 h [.int x0] (ax_QI Q)
def L_X8_isSign_0 (l : Launch) (g : AG) (h : AH) (x0 : Int32)  (Q : Int32 → AH → Prop) : Prop := Wp l g mX8_isSign 1 20 194 194 194 0 [(0, .int x0)] [] h (FM g 194 194 (ax_QI Q))
set_option maxRecDepth 100000 in
set_option maxHeartbeats 4000000 in
theorem s_X8_isSign_0 {l : Launch} {g : AG} {h : AH} {x0 : Int32}  {Q : Int32 → AH → Prop} (hb : ((x0 = 123 → (Q 1 h)) ∧ (¬ (x0 = 123) → (((x0 = 125 → (Q 1 h)) ∧ (¬ (x0 = 125) → (((x0 = 59 → (Q 1 h)) ∧ (¬ (x0 = 59) → (((x0 = 44 → (Q 1 h)) ∧ (¬ (x0 = 44) → (C_X8_isComparison l g h x0 (fun r7 h6 => ( ((r7 = 0 → (Q 0 h6)) ∧ (¬ (r7 = 0) → (Q 1 h6)))))))))))))))))) : L_X8_isSign_0 l g h x0  Q := by
  refine wp_iload_n 0 dX8_isSign_0 rfl rfl ?_
  refine wp_bipush (v := 123) dX8_isSign_1 (by decide) ?_
  refine wp_icmp_eq (tgt := 31) dX8_isSign_3 (by decide) (fun c1 => ?_) (fun c1 => ?_)
  · have hb := hb.1 c1
    refine wp_iconst (v := 1) dX8_isSign_31 (by decide) ?_
    refine wp_goto (tgt := 36) dX8_isSign_32 (by decide) ?_
    exact wp_zret rfl dX8_isSign_36 (Or.inr rfl) ⟨_, rfl, hb⟩
  · have hb := hb.2 c1
    refine wp_iload_n 0 dX8_isSign_6 rfl rfl ?_
    refine wp_bipush (v := 125) dX8_isSign_7 (by decide) ?_
    refine wp_icmp_eq (tgt := 31) dX8_isSign_9 (by decide) (fun c2 => ?_) (fun c2 => ?_)
    · have hb := hb.1 c2
      refine wp_iconst (v := 1) dX8_isSign_31 (by decide) ?_
      refine wp_goto (tgt := 36) dX8_isSign_32 (by decide) ?_
      exact wp_zret rfl dX8_isSign_36 (Or.inr rfl) ⟨_, rfl, hb⟩
    · have hb := hb.2 c2
      refine wp_iload_n 0 dX8_isSign_12 rfl rfl ?_
      refine wp_bipush (v := 59) dX8_isSign_13 (by decide) ?_
      refine wp_icmp_eq (tgt := 31) dX8_isSign_15 (by decide) (fun c3 => ?_) (fun c3 => ?_)
      · have hb := hb.1 c3
        refine wp_iconst (v := 1) dX8_isSign_31 (by decide) ?_
        refine wp_goto (tgt := 36) dX8_isSign_32 (by decide) ?_
        exact wp_zret rfl dX8_isSign_36 (Or.inr rfl) ⟨_, rfl, hb⟩
      · have hb := hb.2 c3
        refine wp_iload_n 0 dX8_isSign_18 rfl rfl ?_
        refine wp_bipush (v := 44) dX8_isSign_19 (by decide) ?_
        refine wp_icmp_eq (tgt := 31) dX8_isSign_21 (by decide) (fun c4 => ?_) (fun c4 => ?_)
        · have hb := hb.1 c4
          refine wp_iconst (v := 1) dX8_isSign_31 (by decide) ?_
          refine wp_goto (tgt := 36) dX8_isSign_32 (by decide) ?_
          exact wp_zret rfl dX8_isSign_36 (Or.inr rfl) ⟨_, rfl, hb⟩
        · have hb := hb.2 c4
          refine wp_iload_n 0 dX8_isSign_24 rfl rfl ?_
          refine wp_callS (as := [.int x0]) dX8_isSign_25 cb_X8_isComparison lk_X8_66 st_X8_isComparison rfl (Nat.le_of_ble_eq_true rfl) ⟨by decide, by decide⟩ ⟨Nat.le_refl _, Nat.le_refl _, Nat.le_refl _⟩ hb (fun r0 h6 hb => ?_)
          obtain ⟨r7, rfl, hb⟩ := hb
          refine wp_if_eq (tgt := 35) dX8_isSign_28 (by decide) (fun c8 => ?_) (fun c8 => ?_)
          · have hb := hb.1 c8
            refine wp_iconst (v := 0) dX8_isSign_35 (by decide) ?_
            exact wp_zret rfl dX8_isSign_36 (Or.inl rfl) ⟨_, rfl, hb⟩
          · have hb := hb.2 c8
            refine wp_iconst (v := 1) dX8_isSign_31 (by decide) ?_
            refine wp_goto (tgt := 36) dX8_isSign_32 (by decide) ?_
            exact wp_zret rfl dX8_isSign_36 (Or.inr rfl) ⟨_, rfl, hb⟩
theorem c_X8_isSign {l : Launch} {g : AG} {h : AH} {x0 : Int32}  {Q : Int32 → AH → Prop} (hb : L_X8_isSign_0 l g h x0  Q) : C_X8_isSign l g h x0  Q := ax_met rfl rfl (Nat.le_of_ble_eq_true rfl) hb
def C_X8_goOn (l : Launch) (g : AG) (h : AH) (x0 : Nat)  (Q : AH → Prop) : Prop := Ct l g mX8_goOn 2 40 194 194 h [.ref x0] (ax_QV Q)
def L_X8_goOn_0 (l : Launch) (g : AG) (h : AH) (x0 : Nat)  (Q : AH → Prop) : Prop := Wp l g mX8_goOn 2 40 194 194 194 0 [(0, .ref x0)] [] h (FM g 194 194 (ax_QV Q))
def L_X8_goOn_52 (l : Launch) (g : AG) (h : AH) (x0 : Nat)  (Q : AH → Prop) : Prop := Wp l g mX8_goOn 2 40 194 194 194 52 [(0, .ref x0)] [] h (FM g 194 194 (ax_QV Q))
set_option maxRecDepth 100000 in
set_option maxHeartbeats 4000000 in
theorem s_X8_goOn_0 {l : Launch} {g : AG} {h : AH} {x0 : Nat}  {Q : AH → Prop} (hb : (Is 194 x0 7) ∧ ( ((h.1 x0 1 ≤ h.1 x0 2 → (L_X8_goOn_52 l g h x0  Q)) ∧ (¬ (h.1 x0 1 ≤ h.1 x0 2) → ((Is 194 (h.2.2 x0 0) 20) ∧ ( (vp_in (h.1 x0 2) (ax_s (h.2.2 x0 0)).2) ∧ ( ((h.1 (h.2.2 x0 0) (h.1 x0 2).toNatClampNeg = 32 → (∀ h6 : AH, h6 = ax_setI h x0 2 ((h.1 x0 2) + 1) → ( L_X8_goOn_0 l g h6 x0  Q))) ∧ (¬ (h.1 (h.2.2 x0 0) (h.1 x0 2).toNatClampNeg = 32) → ((Is 194 (h.2.2 x0 0) 20) ∧ ( (vp_in (h.1 x0 2) (ax_s (h.2.2 x0 0)).2) ∧ ( ((¬ h.1 (h.2.2 x0 0) (h.1 x0 2).toNatClampNeg = 10 → (L_X8_goOn_52 l g h x0  Q)) ∧ (h.1 (h.2.2 x0 0) (h.1 x0 2).toNatClampNeg = 10 → (∀ h11 : AH, h11 = ax_setI h x0 2 ((h.1 x0 2) + 1) → ( L_X8_goOn_0 l g h11 x0  Q)))))))))))))))) : L_X8_goOn_0 l g h x0  Q := by
  obtain ⟨i1, hb⟩ := hb
  refine wp_aload_n 0 dX8_goOn_0 rfl rfl ?_
  refine wp_getI dX8_goOn_1 fl_X8_19 i1 ?_
  refine wp_aload_n 0 dX8_goOn_4 rfl rfl ?_
  refine wp_getI dX8_goOn_5 fl_X8_15 i1 ?_
  refine wp_icmp_ge (tgt := 52) dX8_goOn_8 (by decide) (fun c2 => ?_) (fun c2 => ?_)
  · have hb := hb.1 c2
    exact hb
  · have hb := hb.2 c2
    refine wp_aload_n 0 dX8_goOn_11 rfl rfl ?_
    obtain ⟨i3, hb⟩ := hb
    refine wp_getR dX8_goOn_12 fl_X8_9 i1 (i3.ne (by decide)) ?_
    refine wp_aload_n 0 dX8_goOn_15 rfl rfl ?_
    refine wp_getI dX8_goOn_16 fl_X8_19 i1 ?_
    obtain ⟨b4, hb⟩ := hb
    refine wp_iaload dX8_goOn_19 i3 b4 ?_
    refine wp_bipush (v := 32) dX8_goOn_20 (by decide) ?_
    refine wp_icmp_eq (tgt := 39) dX8_goOn_22 (by decide) (fun c5 => ?_) (fun c5 => ?_)
    · have hb := hb.1 c5
      refine wp_aload_n 0 dX8_goOn_39 rfl rfl ?_
      refine wp_dup dX8_goOn_40 rfl ?_
      refine wp_getI dX8_goOn_41 fl_X8_19 i1 ?_
      refine wp_iconst (v := 1) dX8_goOn_44 (by decide) ?_
      refine wp_iadd dX8_goOn_45 ?_
      refine wp_putI dX8_goOn_46 fl_X8_19 (Or.inl rfl) i1 ?_
      refine wp_topH (fun h6 e7 => ?_)
      have hb := hb h6 e7
      refine wp_goto (tgt := 0) dX8_goOn_49 (by decide) ?_
      exact hb
    · have hb := hb.2 c5
      refine wp_aload_n 0 dX8_goOn_25 rfl rfl ?_
      obtain ⟨i8, hb⟩ := hb
      refine wp_getR dX8_goOn_26 fl_X8_9 i1 (i8.ne (by decide)) ?_
      refine wp_aload_n 0 dX8_goOn_29 rfl rfl ?_
      refine wp_getI dX8_goOn_30 fl_X8_19 i1 ?_
      obtain ⟨b9, hb⟩ := hb
      refine wp_iaload dX8_goOn_33 i8 b9 ?_
      refine wp_bipush (v := 10) dX8_goOn_34 (by decide) ?_
      refine wp_icmp_ne (tgt := 52) dX8_goOn_36 (by decide) (fun c10 => ?_) (fun c10 => ?_)
      · have hb := hb.1 c10
        exact hb
      · have hb := hb.2 c10
        refine wp_aload_n 0 dX8_goOn_39 rfl rfl ?_
        refine wp_dup dX8_goOn_40 rfl ?_
        refine wp_getI dX8_goOn_41 fl_X8_19 i1 ?_
        refine wp_iconst (v := 1) dX8_goOn_44 (by decide) ?_
        refine wp_iadd dX8_goOn_45 ?_
        refine wp_putI dX8_goOn_46 fl_X8_19 (Or.inl rfl) i1 ?_
        refine wp_topH (fun h11 e12 => ?_)
        have hb := hb h11 e12
        refine wp_goto (tgt := 0) dX8_goOn_49 (by decide) ?_
        exact hb
set_option maxRecDepth 100000 in
set_option maxHeartbeats 4000000 in
theorem s_X8_goOn_52 {l : Launch} {g : AG} {h : AH} {x0 : Nat}  {Q : AH → Prop} (hb : (Is 194 x0 7) ∧ ( ∀ h14 : AH, h14 = ax_setI h x0 4 (h.1 x0 2) → ( ((h14.1 x0 2 < h14.1 x0 1 → ((Is 194 (h14.2.2 x0 0) 20) ∧ ( (vp_in (h14.1 x0 2) (ax_s (h14.2.2 x0 0)).2) ∧ ( C_X8_isLetter l g h14 (h14.1 (h14.2.2 x0 0) (h14.1 x0 2).toNatClampNeg) (fun r21 h20 => ( ((r21 = 0 → ((Is 194 (h20.2.2 x0 0) 20) ∧ ( (vp_in (h20.1 x0 2) (ax_s (h20.2.2 x0 0)).2) ∧ ( C_X8_isDigit l g h20 (h20.1 (h20.2.2 x0 0) (h20.1 x0 2).toNatClampNeg) (fun r27 h26 => ( ((r27 = 0 → ((Is 194 (h26.2.2 x0 0) 20) ∧ ( (vp_in (h26.1 x0 2) (ax_s (h26.2.2 x0 0)).2) ∧ ( C_X8_isSign l g h26 (h26.1 (h26.2.2 x0 0) (h26.1 x0 2).toNatClampNeg) (fun r33 h32 => ( ((r33 = 0 → (∀ h35 : AH, h35 = ax_setI h32 x0 3 3 → ( ∀ h37 : AH, h37 = ax_setI h35 x0 2 ((h35.1 x0 2) + 1) → ( Q h37)))) ∧ (¬ (r33 = 0) → ((Is 194 (h32.2.2 x0 0) 20) ∧ ( (vp_in (h32.1 x0 2) (ax_s (h32.2.2 x0 0)).2) ∧ ( ∀ h41 : AH, h41 = ax_setI h32 x0 3 (h32.1 (h32.2.2 x0 0) (h32.1 x0 2).toNatClampNeg) → ( ∀ h43 : AH, h43 = ax_setI h41 x0 2 ((h41.1 x0 2) + 1) → ( Q h43))))))))))))) ∧ (¬ (r27 = 0) → (C_X8_goOverNumber l g h26 x0 (fun h46 => ( Q h46))))))))))) ∧ (¬ (r21 = 0) → (C_X8_goOverWord l g h20 x0 (fun h48 => ( Q h48))))))))))) ∧ (¬ (h14.1 x0 2 < h14.1 x0 1) → (∀ h49 : AH, h49 = ax_setI h14 x0 3 0 → ( Q h49))))))) : L_X8_goOn_52 l g h x0  Q := by
  obtain ⟨i13, hb⟩ := hb
  refine wp_aload_n 0 dX8_goOn_52 rfl rfl ?_
  refine wp_aload_n 0 dX8_goOn_53 rfl rfl ?_
  refine wp_getI dX8_goOn_54 fl_X8_19 i13 ?_
  refine wp_putI dX8_goOn_57 fl_X8_25 (Or.inl rfl) i13 ?_
  refine wp_topH (fun h14 e15 => ?_)
  have hb := hb h14 e15
  refine wp_aload_n 0 dX8_goOn_60 rfl rfl ?_
  refine wp_getI dX8_goOn_61 fl_X8_19 i13 ?_
  refine wp_aload_n 0 dX8_goOn_64 rfl rfl ?_
  refine wp_getI dX8_goOn_65 fl_X8_15 i13 ?_
  refine wp_icmp_lt (tgt := 79) dX8_goOn_68 (by decide) (fun c16 => ?_) (fun c16 => ?_)
  · have hb := hb.1 c16
    refine wp_aload_n 0 dX8_goOn_79 rfl rfl ?_
    obtain ⟨i17, hb⟩ := hb
    refine wp_getR dX8_goOn_80 fl_X8_9 i13 (i17.ne (by decide)) ?_
    refine wp_aload_n 0 dX8_goOn_83 rfl rfl ?_
    refine wp_getI dX8_goOn_84 fl_X8_19 i13 ?_
    obtain ⟨b18, hb⟩ := hb
    refine wp_iaload dX8_goOn_87 i17 b18 ?_
    refine wp_callS (as := [.int (h14.1 (h14.2.2 x0 0) (h14.1 x0 2).toNatClampNeg)]) dX8_goOn_88 cb_X8_isLetter lk_X8_41 st_X8_isLetter rfl (Nat.le_of_ble_eq_true rfl) ⟨by decide, by decide⟩ ⟨Nat.le_refl _, Nat.le_refl _, Nat.le_refl _⟩ hb (fun r0 h20 hb => ?_)
    obtain ⟨r21, rfl, hb⟩ := hb
    refine wp_if_eq (tgt := 101) dX8_goOn_91 (by decide) (fun c22 => ?_) (fun c22 => ?_)
    · have hb := hb.1 c22
      refine wp_aload_n 0 dX8_goOn_101 rfl rfl ?_
      obtain ⟨i23, hb⟩ := hb
      refine wp_getR dX8_goOn_102 fl_X8_9 i13 (i23.ne (by decide)) ?_
      refine wp_aload_n 0 dX8_goOn_105 rfl rfl ?_
      refine wp_getI dX8_goOn_106 fl_X8_19 i13 ?_
      obtain ⟨b24, hb⟩ := hb
      refine wp_iaload dX8_goOn_109 i23 b24 ?_
      refine wp_callS (as := [.int (h20.1 (h20.2.2 x0 0) (h20.1 x0 2).toNatClampNeg)]) dX8_goOn_110 cb_X8_isDigit lk_X8_48 st_X8_isDigit rfl (Nat.le_of_ble_eq_true rfl) ⟨by decide, by decide⟩ ⟨Nat.le_refl _, Nat.le_refl _, Nat.le_refl _⟩ hb (fun r0 h26 hb => ?_)
      obtain ⟨r27, rfl, hb⟩ := hb
      refine wp_if_eq (tgt := 123) dX8_goOn_113 (by decide) (fun c28 => ?_) (fun c28 => ?_)
      · have hb := hb.1 c28
        refine wp_aload_n 0 dX8_goOn_123 rfl rfl ?_
        refine wp_aload_n 0 dX8_goOn_124 rfl rfl ?_
        obtain ⟨i29, hb⟩ := hb
        refine wp_getR dX8_goOn_125 fl_X8_9 i13 (i29.ne (by decide)) ?_
        refine wp_aload_n 0 dX8_goOn_128 rfl rfl ?_
        refine wp_getI dX8_goOn_129 fl_X8_19 i13 ?_
        obtain ⟨b30, hb⟩ := hb
        refine wp_iaload dX8_goOn_132 i29 b30 ?_
        refine wp_callS (as := [.int (h26.1 (h26.2.2 x0 0) (h26.1 x0 2).toNatClampNeg)]) dX8_goOn_133 cb_X8_isSign lk_X8_54 st_X8_isSign rfl (Nat.le_of_ble_eq_true rfl) ⟨by decide, by decide⟩ ⟨Nat.le_refl _, Nat.le_refl _, Nat.le_refl _⟩ hb (fun r0 h32 hb => ?_)
        obtain ⟨r33, rfl, hb⟩ := hb
        refine wp_if_eq (tgt := 151) dX8_goOn_136 (by decide) (fun c34 => ?_) (fun c34 => ?_)
        · have hb := hb.1 c34
          refine wp_iconst (v := 3) dX8_goOn_151 (by decide) ?_
          refine wp_putI dX8_goOn_152 fl_X8_22 (Or.inl rfl) i13 ?_
          refine wp_topH (fun h35 e36 => ?_)
          have hb := hb h35 e36
          refine wp_aload_n 0 dX8_goOn_155 rfl rfl ?_
          refine wp_dup dX8_goOn_156 rfl ?_
          refine wp_getI dX8_goOn_157 fl_X8_19 i13 ?_
          refine wp_iconst (v := 1) dX8_goOn_160 (by decide) ?_
          refine wp_iadd dX8_goOn_161 ?_
          refine wp_putI dX8_goOn_162 fl_X8_19 (Or.inl rfl) i13 ?_
          refine wp_topH (fun h37 e38 => ?_)
          have hb := hb h37 e38
          exact wp_vret rfl dX8_goOn_165 ⟨rfl, hb⟩
        · have hb := hb.2 c34
          refine wp_aload_n 0 dX8_goOn_139 rfl rfl ?_
          obtain ⟨i39, hb⟩ := hb
          refine wp_getR dX8_goOn_140 fl_X8_9 i13 (i39.ne (by decide)) ?_
          refine wp_aload_n 0 dX8_goOn_143 rfl rfl ?_
          refine wp_getI dX8_goOn_144 fl_X8_19 i13 ?_
          obtain ⟨b40, hb⟩ := hb
          refine wp_iaload dX8_goOn_147 i39 b40 ?_
          refine wp_goto (tgt := 152) dX8_goOn_148 (by decide) ?_
          refine wp_putI dX8_goOn_152 fl_X8_22 (Or.inl rfl) i13 ?_
          refine wp_topH (fun h41 e42 => ?_)
          have hb := hb h41 e42
          refine wp_aload_n 0 dX8_goOn_155 rfl rfl ?_
          refine wp_dup dX8_goOn_156 rfl ?_
          refine wp_getI dX8_goOn_157 fl_X8_19 i13 ?_
          refine wp_iconst (v := 1) dX8_goOn_160 (by decide) ?_
          refine wp_iadd dX8_goOn_161 ?_
          refine wp_putI dX8_goOn_162 fl_X8_19 (Or.inl rfl) i13 ?_
          refine wp_topH (fun h43 e44 => ?_)
          have hb := hb h43 e44
          exact wp_vret rfl dX8_goOn_165 ⟨rfl, hb⟩
      · have hb := hb.2 c28
        refine wp_aload_n 0 dX8_goOn_116 rfl rfl ?_
        refine wp_callV (as := []) dX8_goOn_117 cb_X8_goOverNumber lk_X8_51 im_X8_goOverNumber se_X8_goOverNumber rfl (Nat.le_of_ble_eq_true rfl) ⟨by decide, by decide⟩ ⟨Nat.le_refl _, Nat.le_refl _, Nat.le_refl _⟩ i13 rfl (by decide) hb (fun r0 h46 hb => ?_)
        obtain ⟨rfl, hb⟩ := hb
        refine wp_goto (tgt := 165) dX8_goOn_120 (by decide) ?_
        exact wp_vret rfl dX8_goOn_165 ⟨rfl, hb⟩
    · have hb := hb.2 c22
      refine wp_aload_n 0 dX8_goOn_94 rfl rfl ?_
      refine wp_callV (as := []) dX8_goOn_95 cb_X8_goOverWord lk_X8_45 im_X8_goOverWord se_X8_goOverWord rfl (Nat.le_of_ble_eq_true rfl) ⟨by decide, by decide⟩ ⟨Nat.le_refl _, Nat.le_refl _, Nat.le_refl _⟩ i13 rfl (by decide) hb (fun r0 h48 hb => ?_)
      obtain ⟨rfl, hb⟩ := hb
      refine wp_goto (tgt := 165) dX8_goOn_98 (by decide) ?_
      exact wp_vret rfl dX8_goOn_165 ⟨rfl, hb⟩
  · have hb := hb.2 c16
    refine wp_aload_n 0 dX8_goOn_71 rfl rfl ?_
    refine wp_iconst (v := 0) dX8_goOn_72 (by decide) ?_
    refine wp_putI dX8_goOn_73 fl_X8_22 (Or.inl rfl) i13 ?_
    refine wp_topH (fun h49 e50 => ?_)
    have hb := hb h49 e50
    refine wp_goto (tgt := 165) dX8_goOn_76 (by decide) ?_
    exact wp_vret rfl dX8_goOn_165 ⟨rfl, hb⟩
theorem c_X8_goOn {l : Launch} {g : AG} {h : AH} {x0 : Nat}  {Q : AH → Prop} (hb : L_X8_goOn_0 l g h x0  Q) : C_X8_goOn l g h x0  Q := ax_met rfl rfl (Nat.le_of_ble_eq_true rfl) hb
def C_X0_placeOf (l : Launch) (g : AG) (h : AH) (x0 : Int64) (x2 : Nat) (x3 : Int32) (x4 : Int32)  (Q : Int32 → AH → Prop) : Prop := Ct l g mX0_placeOf 0 0 194 194 h [.long x0, .ref x2, .int x3, .int x4] (ax_QI Q)
def L_X0_placeOf_0 (l : Launch) (g : AG) (h : AH) (x0 : Int64) (x2 : Nat) (x3 : Int32) (x4 : Int32)  (Q : Int32 → AH → Prop) : Prop := Wp l g mX0_placeOf 0 0 194 194 194 0 [(0, .long x0), (2, .ref x2), (3, .int x3), (4, .int x4)] [] h (FM g 194 194 (ax_QI Q))
def L_X0_placeOf_3 (l : Launch) (g : AG) (h : AH) (x0 : Int64) (x2 : Nat) (x4 : Int32) (x5 : Int32)  (Q : Int32 → AH → Prop) : Prop := Wp l g mX0_placeOf 0 0 194 194 194 3 [(0, .long x0), (2, .ref x2), (4, .int x4), (5, .int x5)] [] h (FM g 194 194 (ax_QI Q))
set_option maxRecDepth 100000 in
set_option maxHeartbeats 4000000 in
theorem s_X0_placeOf_0 {l : Launch} {g : AG} {h : AH} {x0 : Int64} {x2 : Nat} {x3 : Int32} {x4 : Int32}  {Q : Int32 → AH → Prop} (hb : L_X0_placeOf_3 l g h x0 x2 x4 x3  Q) : L_X0_placeOf_0 l g h x0 x2 x3 x4  Q := by
  refine wp_iload_n 2 dX0_placeOf_0 rfl rfl ?_
  refine wp_istore (lv2 := [(5, .int x3), (0, .long x0), (2, .ref x2), (3, .int x3), (4, .int x4)]) dX0_placeOf_1 (by decide) rfl ?_
  exact wp_sub [1, 2, 4, 0] rfl hb
set_option maxRecDepth 100000 in
set_option maxHeartbeats 4000000 in
theorem s_X0_placeOf_3 {l : Launch} {g : AG} {h : AH} {x0 : Int64} {x2 : Nat} {x4 : Int32} {x5 : Int32}  {Q : Int32 → AH → Prop} (hb : ((x4 ≤ x5 → (Q (-1) h)) ∧ (¬ (x4 ≤ x5) → ((Is 194 x2 21) ∧ ( (vp_in x5 (ax_s x2).2) ∧ ( ((¬ lg_cmp (h.2.1 x2 x5.toNatClampNeg) x0 = 0 → (∀ v5 : Int32, v5 = x5 + (1) → ( L_X0_placeOf_3 l g h x0 x2 x4 v5  Q))) ∧ (lg_cmp (h.2.1 x2 x5.toNatClampNeg) x0 = 0 → (Q x5 h))))))))) : L_X0_placeOf_3 l g h x0 x2 x4 x5  Q := by
  refine wp_iload 3 dX0_placeOf_3 rfl ?_
  refine wp_iload 2 dX0_placeOf_5 rfl ?_
  refine wp_icmp_ge (tgt := 28) dX0_placeOf_7 (by decide) (fun c1 => ?_) (fun c1 => ?_)
  · have hb := hb.1 c1
    refine wp_iconst (v := (-1)) dX0_placeOf_28 (by decide) ?_
    exact wp_iret rfl dX0_placeOf_29 ⟨_, rfl, hb⟩
  · have hb := hb.2 c1
    obtain ⟨i2, hb⟩ := hb
    refine wp_aload_n 1 dX0_placeOf_10 rfl rfl ?_
    refine wp_iload 3 dX0_placeOf_11 rfl ?_
    obtain ⟨b3, hb⟩ := hb
    refine wp_laload dX0_placeOf_13 i2 b3 ?_
    refine wp_lload_n 0 dX0_placeOf_14 rfl rfl ?_
    refine wp_lcmp dX0_placeOf_15 ?_
    refine wp_if_ne (tgt := 22) dX0_placeOf_16 (by decide) (fun c4 => ?_) (fun c4 => ?_)
    · have hb := hb.1 c4
      obtain ⟨v5, e6⟩ : ∃ y : Int32, y = x5 + (1) := ⟨_, rfl⟩
      have hb := hb v5 e6
      refine wp_iinc (v := v5) (lv2 := [(5, .int v5), (0, .long x0), (2, .ref x2), (4, .int x4)]) 3 dX0_placeOf_22 rfl (by rw [e6]; rfl) (by decide) rfl ?_
      refine wp_goto (tgt := 3) dX0_placeOf_25 (by decide) ?_
      exact wp_sub [1, 2, 3, 0] rfl hb
    · have hb := hb.2 c4
      refine wp_iload 3 dX0_placeOf_19 rfl ?_
      exact wp_iret rfl dX0_placeOf_21 ⟨_, rfl, hb⟩
theorem c_X0_placeOf {l : Launch} {g : AG} {h : AH} {x0 : Int64} {x2 : Nat} {x3 : Int32} {x4 : Int32}  {Q : Int32 → AH → Prop} (hb : L_X0_placeOf_0 l g h x0 x2 x3 x4  Q) : C_X0_placeOf l g h x0 x2 x3 x4  Q := ax_met rfl rfl (Nat.le_of_ble_eq_true rfl) hb
def C_X0_windowNamed (l : Launch) (g : AG) (h : AH) (x0 : Nat) (x1 : Int64)  (Q : Int32 → AH → Prop) : Prop := Ct l g mX0_windowNamed 1 25 194 194 h [.ref x0, .long x1] (ax_QI Q)
def L_X0_windowNamed_0 (l : Launch) (g : AG) (h : AH) (x0 : Nat) (x1 : Int64)  (Q : Int32 → AH → Prop) : Prop := Wp l g mX0_windowNamed 1 25 194 194 194 0 [(0, .ref x0), (1, .long x1)] [] h (FM g 194 194 (ax_QI Q))
set_option maxRecDepth 100000 in
set_option maxHeartbeats 4000000 in
theorem s_X0_windowNamed_0 {l : Launch} {g : AG} {h : AH} {x0 : Nat} {x1 : Int64}  {Q : Int32 → AH → Prop} (hb : (Is 194 x0 0) ∧ ( (Is 194 (h.2.2 x0 8) 21) ∧ ( C_X0_placeOf l g h x1 (h.2.2 x0 8) 0 (h.1 x0 0) (fun r5 h4 => ( Q r5 h4))))) : L_X0_windowNamed_0 l g h x0 x1  Q := by
  refine wp_lload_n 1 dX0_windowNamed_0 rfl rfl ?_
  obtain ⟨i1, hb⟩ := hb
  refine wp_aload_n 0 dX0_windowNamed_1 rfl rfl ?_
  obtain ⟨i2, hb⟩ := hb
  refine wp_getR dX0_windowNamed_2 fl_X0_38 i1 (i2.ne (by decide)) ?_
  refine wp_iconst (v := 0) dX0_windowNamed_5 (by decide) ?_
  refine wp_aload_n 0 dX0_windowNamed_6 rfl rfl ?_
  refine wp_getI dX0_windowNamed_7 fl_X0_9 i1 ?_
  refine wp_callS (as := [.long x1, .ref (h.2.2 x0 8), .int 0, .int (h.1 x0 0)]) dX0_windowNamed_10 cb_X0_placeOf lk_X0_94 st_X0_placeOf rfl (Nat.le_of_ble_eq_true rfl) ⟨by decide, by decide⟩ ⟨Nat.le_refl _, Nat.le_refl _, Nat.le_refl _⟩ hb (fun r0 h4 hb => ?_)
  obtain ⟨r5, rfl, hb⟩ := hb
  exact wp_iret rfl dX0_windowNamed_13 ⟨_, rfl, hb⟩
theorem c_X0_windowNamed {l : Launch} {g : AG} {h : AH} {x0 : Nat} {x1 : Int64}  {Q : Int32 → AH → Prop} (hb : L_X0_windowNamed_0 l g h x0 x1  Q) : C_X0_windowNamed l g h x0 x1  Q := ax_met rfl rfl (Nat.le_of_ble_eq_true rfl) hb
def C_X7_findOpened (l : Launch) (g : AG) (h : AH) (x0 : Nat)  (Q : Int32 → AH → Prop) : Prop := Ct l g mX7_findOpened 2 47 194 194 h [.ref x0] (ax_QI Q)
def L_X7_findOpened_0 (l : Launch) (g : AG) (h : AH) (x0 : Nat)  (Q : Int32 → AH → Prop) : Prop := Wp l g mX7_findOpened 2 47 194 194 194 0 [(0, .ref x0)] [] h (FM g 194 194 (ax_QI Q))
def L_X7_findOpened_2 (l : Launch) (g : AG) (h : AH) (x0 : Nat) (x1 : Int32)  (Q : Int32 → AH → Prop) : Prop := Wp l g mX7_findOpened 2 47 194 194 194 2 [(0, .ref x0), (1, .int x1)] [] h (FM g 194 194 (ax_QI Q))
set_option maxRecDepth 100000 in
set_option maxHeartbeats 4000000 in
theorem s_X7_findOpened_0 {l : Launch} {g : AG} {h : AH} {x0 : Nat}  {Q : Int32 → AH → Prop} (hb : L_X7_findOpened_2 l g h x0 0  Q) : L_X7_findOpened_0 l g h x0  Q := by
  refine wp_iconst (v := 0) dX7_findOpened_0 (by decide) ?_
  refine wp_istore_n (lv2 := [(1, .int 0), (0, .ref x0)]) dX7_findOpened_1 rfl (by decide) rfl ?_
  exact wp_sub [1, 0] rfl hb
set_option maxRecDepth 100000 in
set_option maxHeartbeats 4000000 in
theorem s_X7_findOpened_2 {l : Launch} {g : AG} {h : AH} {x0 : Nat} {x1 : Int32}  {Q : Int32 → AH → Prop} (hb : (Is 194 x0 6) ∧ ( ((h.1 x0 11 ≤ x1 → (Q 1 h)) ∧ (¬ (h.1 x0 11 ≤ x1) → ((Is 194 (h.2.2 x0 1) 0) ∧ ( (Is 194 (h.2.2 x0 13) 21) ∧ ( (vp_in x1 (ax_s (h.2.2 x0 13)).2) ∧ ( C_X0_windowNamed l g h (h.2.2 x0 1) (h.2.1 (h.2.2 x0 13) x1.toNatClampNeg) (fun r8 h7 => ( ((¬ r8 = (-1) → ((Is 194 (h7.2.2 x0 1) 0) ∧ ( (Is 194 (h7.2.2 (h7.2.2 x0 1) 18) 4) ∧ ( (Is 194 (h7.2.2 (h7.2.2 (h7.2.2 x0 1) 18) 2) 20) ∧ ( (Is 194 (h7.2.2 x0 12) 20) ∧ ( (vp_in x1 (ax_s (h7.2.2 x0 12)).2) ∧ ( (vp_in (h7.1 (h7.2.2 x0 12) x1.toNatClampNeg) (ax_s (h7.2.2 (h7.2.2 (h7.2.2 x0 1) 18) 2)).2) ∧ ( ∀ h16 : AH, h16 = ax_setI h7 (h7.2.2 (h7.2.2 (h7.2.2 x0 1) 18) 2) (h7.1 (h7.2.2 x0 12) x1.toNatClampNeg).toNatClampNeg r8 → ( ∀ v18 : Int32, v18 = x1 + (1) → ( L_X7_findOpened_2 l g h16 x0 v18  Q)))))))))) ∧ (r8 = (-1) → (∀ h20 : AH, h20 = ax_setI h7 x0 3 2 → ( (Is 194 (h20.2.2 x0 14) 20) ∧ ( (vp_in x1 (ax_s (h20.2.2 x0 14)).2) ∧ ( ∀ h24 : AH, h24 = ax_setI h20 x0 4 (h20.1 (h20.2.2 x0 14) x1.toNatClampNeg) → ( Q 0 h24))))))))))))))))) : L_X7_findOpened_2 l g h x0 x1  Q := by
  refine wp_iload_n 1 dX7_findOpened_2 rfl rfl ?_
  obtain ⟨i1, hb⟩ := hb
  refine wp_aload_n 0 dX7_findOpened_3 rfl rfl ?_
  refine wp_getI dX7_findOpened_4 fl_X7_48 i1 ?_
  refine wp_icmp_ge (tgt := 70) dX7_findOpened_7 (by decide) (fun c2 => ?_) (fun c2 => ?_)
  · have hb := hb.1 c2
    refine wp_iconst (v := 1) dX7_findOpened_70 (by decide) ?_
    exact wp_zret rfl dX7_findOpened_71 (Or.inr rfl) ⟨_, rfl, hb⟩
  · have hb := hb.2 c2
    refine wp_aload_n 0 dX7_findOpened_10 rfl rfl ?_
    obtain ⟨i3, hb⟩ := hb
    refine wp_getR dX7_findOpened_11 fl_X7_64 i1 (i3.ne (by decide)) ?_
    refine wp_aload_n 0 dX7_findOpened_14 rfl rfl ?_
    obtain ⟨i4, hb⟩ := hb
    refine wp_getR dX7_findOpened_15 fl_X7_57 i1 (i4.ne (by decide)) ?_
    refine wp_iload_n 1 dX7_findOpened_18 rfl rfl ?_
    obtain ⟨b5, hb⟩ := hb
    refine wp_laload dX7_findOpened_19 i4 b5 ?_
    refine wp_callVN (as := [.long (h.2.1 (h.2.2 x0 13) x1.toNatClampNeg)]) dX7_findOpened_20 cb_X0_windowNamed lk_X7_193 im_X0_windowNamed se_X0_windowNamed rfl (Nat.le_of_ble_eq_true rfl) ⟨by decide, by decide⟩ ⟨Nat.le_refl _, Nat.le_refl _, Nat.le_refl _⟩ i3 rfl (by decide) hb (fun r0 h7 hb => ?_)
    obtain ⟨r8, rfl, hb⟩ := hb
    refine wp_istore_n (lv2 := [(2, .int r8), (0, .ref x0), (1, .int x1)]) dX7_findOpened_23 rfl (by decide) rfl ?_
    refine wp_iload_n 0 dX7_findOpened_24 rfl rfl ?_
    refine wp_iconst (v := (-1)) dX7_findOpened_25 (by decide) ?_
    refine wp_icmp_ne (tgt := 46) dX7_findOpened_26 (by decide) (fun c9 => ?_) (fun c9 => ?_)
    · have hb := hb.1 c9
      refine wp_aload_n 1 dX7_findOpened_46 rfl rfl ?_
      obtain ⟨i10, hb⟩ := hb
      refine wp_getR dX7_findOpened_47 fl_X7_64 i1 (i10.ne (by decide)) ?_
      obtain ⟨i11, hb⟩ := hb
      refine wp_getR dX7_findOpened_50 fl_X7_263 i10 (i11.ne (by decide)) ?_
      obtain ⟨i12, hb⟩ := hb
      refine wp_getR dX7_findOpened_53 fl_X7_282 i11 (i12.ne (by decide)) ?_
      refine wp_aload_n 1 dX7_findOpened_56 rfl rfl ?_
      obtain ⟨i13, hb⟩ := hb
      refine wp_getR dX7_findOpened_57 fl_X7_53 i1 (i13.ne (by decide)) ?_
      refine wp_iload_n 2 dX7_findOpened_60 rfl rfl ?_
      obtain ⟨b14, hb⟩ := hb
      refine wp_iaload dX7_findOpened_61 i13 b14 ?_
      refine wp_iload_n 0 dX7_findOpened_62 rfl rfl ?_
      obtain ⟨b15, hb⟩ := hb
      refine wp_iastore dX7_findOpened_63 i12 b15 ?_
      refine wp_topH (fun h16 e17 => ?_)
      have hb := hb h16 e17
      obtain ⟨v18, e19⟩ : ∃ y : Int32, y = x1 + (1) := ⟨_, rfl⟩
      have hb := hb v18 e19
      refine wp_iinc (v := v18) (lv2 := [(1, .int v18), (2, .int r8), (0, .ref x0)]) 2 dX7_findOpened_64 rfl (by rw [e19]; rfl) (by decide) rfl ?_
      refine wp_goto (tgt := 2) dX7_findOpened_67 (by decide) ?_
      exact wp_sub [2, 0] rfl hb
    · have hb := hb.2 c9
      refine wp_aload_n 1 dX7_findOpened_29 rfl rfl ?_
      refine wp_iconst (v := 2) dX7_findOpened_30 (by decide) ?_
      refine wp_putI dX7_findOpened_31 fl_X7_22 (Or.inl rfl) i1 ?_
      refine wp_topH (fun h20 e21 => ?_)
      have hb := hb h20 e21
      refine wp_aload_n 1 dX7_findOpened_34 rfl rfl ?_
      refine wp_aload_n 1 dX7_findOpened_35 rfl rfl ?_
      obtain ⟨i22, hb⟩ := hb
      refine wp_getR dX7_findOpened_36 fl_X7_61 i1 (i22.ne (by decide)) ?_
      refine wp_iload_n 2 dX7_findOpened_39 rfl rfl ?_
      obtain ⟨b23, hb⟩ := hb
      refine wp_iaload dX7_findOpened_40 i22 b23 ?_
      refine wp_putI dX7_findOpened_41 fl_X7_25 (Or.inl rfl) i1 ?_
      refine wp_topH (fun h24 e25 => ?_)
      have hb := hb h24 e25
      refine wp_iconst (v := 0) dX7_findOpened_44 (by decide) ?_
      exact wp_zret rfl dX7_findOpened_45 (Or.inl rfl) ⟨_, rfl, hb⟩
theorem c_X7_findOpened {l : Launch} {g : AG} {h : AH} {x0 : Nat}  {Q : Int32 → AH → Prop} (hb : L_X7_findOpened_0 l g h x0  Q) : C_X7_findOpened l g h x0  Q := ax_met rfl rfl (Nat.le_of_ble_eq_true rfl) hb
def C_X7_faulty (l : Launch) (g : AG) (h : AH) (x0 : Nat) (x1 : Int32)  (Q : Int32 → AH → Prop) : Prop := Ct l g mX7_faulty 0 0 194 194 h [.ref x0, .int x1] (ax_QI Q)
def L_X7_faulty_0 (l : Launch) (g : AG) (h : AH) (x0 : Nat) (x1 : Int32)  (Q : Int32 → AH → Prop) : Prop := Wp l g mX7_faulty 0 0 194 194 194 0 [(0, .ref x0), (1, .int x1)] [] h (FM g 194 194 (ax_QI Q))
set_option maxRecDepth 100000 in
set_option maxHeartbeats 4000000 in
theorem s_X7_faulty_0 {l : Launch} {g : AG} {h : AH} {x0 : Nat} {x1 : Int32}  {Q : Int32 → AH → Prop} (hb : (Is 194 x0 6) ∧ ( ∀ h2 : AH, h2 = ax_setI h x0 3 x1 → ( (Is 194 (h2.2.2 x0 0) 7) ∧ ( ∀ h5 : AH, h5 = ax_setI h2 x0 4 (h2.1 (h2.2.2 x0 0) 4) → ( Q 0 h5))))) : L_X7_faulty_0 l g h x0 x1  Q := by
  obtain ⟨i1, hb⟩ := hb
  refine wp_aload_n 0 dX7_faulty_0 rfl rfl ?_
  refine wp_iload_n 1 dX7_faulty_1 rfl rfl ?_
  refine wp_putI dX7_faulty_2 fl_X7_22 (Or.inl rfl) i1 ?_
  refine wp_topH (fun h2 e3 => ?_)
  have hb := hb h2 e3
  refine wp_aload_n 0 dX7_faulty_5 rfl rfl ?_
  refine wp_aload_n 0 dX7_faulty_6 rfl rfl ?_
  obtain ⟨i4, hb⟩ := hb
  refine wp_getR dX7_faulty_7 fl_X7_12 i1 (i4.ne (by decide)) ?_
  refine wp_getI dX7_faulty_10 fl_X7_97 i4 ?_
  refine wp_putI dX7_faulty_13 fl_X7_25 (Or.inl rfl) i1 ?_
  refine wp_topH (fun h5 e6 => ?_)
  have hb := hb h5 e6
  refine wp_iconst (v := 0) dX7_faulty_16 (by decide) ?_
  exact wp_zret rfl dX7_faulty_17 (Or.inl rfl) ⟨_, rfl, hb⟩
theorem c_X7_faulty {l : Launch} {g : AG} {h : AH} {x0 : Nat} {x1 : Int32}  {Q : Int32 → AH → Prop} (hb : L_X7_faulty_0 l g h x0 x1  Q) : C_X7_faulty l g h x0 x1  Q := ax_met rfl rfl (Nat.le_of_ble_eq_true rfl) hb
def C_X8_says (l : Launch) (g : AG) (h : AH) (x0 : Nat) (x1 : Nat)  (Q : Int32 → AH → Prop) : Prop := Ct l g mX8_says 4 120 194 194 h [.ref x0, .ref x1] (ax_QI Q)
def L_X8_says_0 (l : Launch) (g : AG) (h : AH) (x0 : Nat) (x1 : Nat)  (Q : Int32 → AH → Prop) : Prop := Wp l g mX8_says 4 120 194 194 194 0 [(0, .ref x0), (1, .ref x1)] [] h (FM g 194 194 (ax_QI Q))
def L_X8_says_28 (l : Launch) (g : AG) (h : AH) (x0 : Nat) (x1 : Nat) (x2 : Int32)  (Q : Int32 → AH → Prop) : Prop := Wp l g mX8_says 4 120 194 194 194 28 [(0, .ref x0), (1, .ref x1), (2, .int x2)] [] h (FM g 194 194 (ax_QI Q))
set_option maxRecDepth 100000 in
set_option maxHeartbeats 4000000 in
theorem s_X8_says_0 {l : Launch} {g : AG} {h : AH} {x0 : Nat} {x1 : Nat}  {Q : Int32 → AH → Prop} (hb : (Is 194 x0 7) ∧ ( ((¬ h.1 x0 3 = 1 → (Q 0 h)) ∧ (h.1 x0 3 = 1 → ((1000 ≤ x1 ∧ x1 < 1014) ∧ ( (((h.1 x0 2) - (h.1 x0 4) = nI (ax_sl.getD (x1 - 1000) 0) → (L_X8_says_28 l g h x0 x1 0  Q)) ∧ (¬ ((h.1 x0 2) - (h.1 x0 4) = nI (ax_sl.getD (x1 - 1000) 0)) → (Q 0 h))))))))) : L_X8_says_0 l g h x0 x1  Q := by
  obtain ⟨i1, hb⟩ := hb
  refine wp_aload_n 0 dX8_says_0 rfl rfl ?_
  refine wp_getI dX8_says_1 fl_X8_22 i1 ?_
  refine wp_iconst (v := 1) dX8_says_4 (by decide) ?_
  refine wp_icmp_ne (tgt := 24) dX8_says_5 (by decide) (fun c2 => ?_) (fun c2 => ?_)
  · have hb := hb.1 c2
    refine wp_iconst (v := 0) dX8_says_24 (by decide) ?_
    exact wp_zret rfl dX8_says_25 (Or.inl rfl) ⟨_, rfl, hb⟩
  · have hb := hb.2 c2
    refine wp_aload_n 0 dX8_says_8 rfl rfl ?_
    refine wp_getI dX8_says_9 fl_X8_19 i1 ?_
    refine wp_aload_n 0 dX8_says_12 rfl rfl ?_
    refine wp_getI dX8_says_13 fl_X8_25 i1 ?_
    refine wp_isub dX8_says_16 ?_
    refine wp_aload_n 1 dX8_says_17 rfl rfl ?_
    obtain ⟨q3, hb⟩ := hb
    refine wp_slen dX8_says_18 lk_X8_57 q3 (Nat.le_of_ble_eq_true rfl) (by decide) (by decide) ⟨Nat.le_refl _, Nat.le_refl _⟩ ?_
    refine wp_icmp_eq (tgt := 26) dX8_says_21 (by decide) (fun c4 => ?_) (fun c4 => ?_)
    · have hb := hb.1 c4
      refine wp_iconst (v := 0) dX8_says_26 (by decide) ?_
      refine wp_istore_n (lv2 := [(2, .int 0), (0, .ref x0), (1, .ref x1)]) dX8_says_27 rfl (by decide) rfl ?_
      exact wp_sub [1, 2, 0] rfl hb
    · have hb := hb.2 c4
      refine wp_iconst (v := 0) dX8_says_24 (by decide) ?_
      exact wp_zret rfl dX8_says_25 (Or.inl rfl) ⟨_, rfl, hb⟩
set_option maxRecDepth 100000 in
set_option maxHeartbeats 4000000 in
theorem s_X8_says_28 {l : Launch} {g : AG} {h : AH} {x0 : Nat} {x1 : Nat} {x2 : Int32}  {Q : Int32 → AH → Prop} (hb : (1000 ≤ x1 ∧ x1 < 1014) ∧ ( ((nI (ax_sl.getD (x1 - 1000) 0) ≤ x2 → (Q 1 h)) ∧ (¬ (nI (ax_sl.getD (x1 - 1000) 0) ≤ x2) → ((Is 194 x0 7) ∧ ( (Is 194 (h.2.2 x0 0) 20) ∧ ( (vp_in ((h.1 x0 4) + x2) (ax_s (h.2.2 x0 0)).2) ∧ ( (1000 ≤ x1 ∧ x1 < 1014) ∧ ( (vp_in x2 (ax_sl.getD (x1 - 1000) 0)) ∧ ( ∀ v12 : Int32, v12 = ((ax_sb.getD (x1 - 1000) []).getD x2.toNatClampNeg 0) → ( ((h.1 (h.2.2 x0 0) ((h.1 x0 4) + x2).toNatClampNeg = v12 → (∀ v15 : Int32, v15 = x2 + (1) → ( L_X8_says_28 l g h x0 x1 v15  Q))) ∧ (¬ (h.1 (h.2.2 x0 0) ((h.1 x0 4) + x2).toNatClampNeg = v12) → (Q 0 h)))))))))))))) : L_X8_says_28 l g h x0 x1 x2  Q := by
  refine wp_iload_n 2 dX8_says_28 rfl rfl ?_
  refine wp_aload_n 1 dX8_says_29 rfl rfl ?_
  obtain ⟨q5, hb⟩ := hb
  refine wp_slen dX8_says_30 lk_X8_57 q5 (Nat.le_of_ble_eq_true rfl) (by decide) (by decide) ⟨Nat.le_refl _, Nat.le_refl _⟩ ?_
  refine wp_icmp_ge (tgt := 63) dX8_says_33 (by decide) (fun c6 => ?_) (fun c6 => ?_)
  · have hb := hb.1 c6
    refine wp_iconst (v := 1) dX8_says_63 (by decide) ?_
    exact wp_zret rfl dX8_says_64 (Or.inr rfl) ⟨_, rfl, hb⟩
  · have hb := hb.2 c6
    obtain ⟨i7, hb⟩ := hb
    refine wp_aload_n 0 dX8_says_36 rfl rfl ?_
    obtain ⟨i8, hb⟩ := hb
    refine wp_getR dX8_says_37 fl_X8_9 i7 (i8.ne (by decide)) ?_
    refine wp_aload_n 0 dX8_says_40 rfl rfl ?_
    refine wp_getI dX8_says_41 fl_X8_25 i7 ?_
    refine wp_iload_n 2 dX8_says_44 rfl rfl ?_
    refine wp_iadd dX8_says_45 ?_
    obtain ⟨b9, hb⟩ := hb
    refine wp_iaload dX8_says_46 i8 b9 ?_
    refine wp_aload_n 1 dX8_says_47 rfl rfl ?_
    refine wp_iload_n 2 dX8_says_48 rfl rfl ?_
    obtain ⟨q10, hb⟩ := hb
    obtain ⟨q11, hb⟩ := hb
    refine wp_schar dX8_says_49 lk_X8_62 q10 q11 (Nat.le_of_ble_eq_true rfl) (by decide) (by decide) ⟨Nat.le_refl _, Nat.le_refl _⟩ ?_
    refine wp_topi (fun v12 e13 => ?_)
    have hb := hb v12 e13
    refine wp_icmp_eq (tgt := 57) dX8_says_52 (by decide) (fun c14 => ?_) (fun c14 => ?_)
    · have hb := hb.1 c14
      obtain ⟨v15, e16⟩ : ∃ y : Int32, y = x2 + (1) := ⟨_, rfl⟩
      have hb := hb v15 e16
      refine wp_iinc (v := v15) (lv2 := [(2, .int v15), (0, .ref x0), (1, .ref x1)]) 2 dX8_says_57 rfl (by rw [e16]; rfl) (by decide) rfl ?_
      refine wp_goto (tgt := 28) dX8_says_60 (by decide) ?_
      exact wp_sub [1, 2, 0] rfl hb
    · have hb := hb.2 c14
      refine wp_iconst (v := 0) dX8_says_55 (by decide) ?_
      exact wp_zret rfl dX8_says_56 (Or.inl rfl) ⟨_, rfl, hb⟩
theorem c_X8_says {l : Launch} {g : AG} {h : AH} {x0 : Nat} {x1 : Nat}  {Q : Int32 → AH → Prop} (hb : L_X8_says_0 l g h x0 x1  Q) : C_X8_says l g h x0 x1  Q := ax_met rfl rfl (Nat.le_of_ble_eq_true rfl) hb
