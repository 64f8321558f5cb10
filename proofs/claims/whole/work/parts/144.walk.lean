def C_X9_trouble (l : Launch) (g : AG) (h : AH) (x0 : Nat)  (Q : Int32 → AH → Prop) : Prop := Ct l g mX9_trouble 0 0 194 194 h [.ref x0] (ax_QI Q)
def L_X9_trouble_0 (l : Launch) (g : AG) (h : AH) (x0 : Nat)  (Q : Int32 → AH → Prop) : Prop := Wp l g mX9_trouble 0 0 194 194 194 0 [(0, .ref x0)] [] h (FM g 194 194 (ax_QI Q))
set_option maxRecDepth 100000 in
set_option maxHeartbeats 4000000 in
theorem s_X9_trouble_0 {l : Launch} {g : AG} {h : AH} {x0 : Nat}  {Q : Int32 → AH → Prop} (hb : (Is 194 x0 8) ∧ ( Q (h.1 x0 12) h)) : L_X9_trouble_0 l g h x0  Q := by
  obtain ⟨i1, hb⟩ := hb
  refine wp_aload_n 0 dX9_trouble_0 rfl rfl ?_
  refine wp_getI dX9_trouble_1 fl_X9_69 i1 ?_
  exact wp_iret rfl dX9_trouble_4 ⟨_, rfl, hb⟩
theorem c_X9_trouble {l : Launch} {g : AG} {h : AH} {x0 : Nat}  {Q : Int32 → AH → Prop} (hb : L_X9_trouble_0 l g h x0  Q) : C_X9_trouble l g h x0  Q := ax_met rfl (Nat.le_of_ble_eq_true rfl) hb
def C_X12_thrown (l : Launch) (g : AG) (h : AH) (x0 : Nat)  (Q : Int32 → AH → Prop) : Prop := Ct l g mX12_thrown 0 0 194 194 h [.ref x0] (ax_QI Q)
def L_X12_thrown_0 (l : Launch) (g : AG) (h : AH) (x0 : Nat)  (Q : Int32 → AH → Prop) : Prop := Wp l g mX12_thrown 0 0 194 194 194 0 [(0, .ref x0)] [] h (FM g 194 194 (ax_QI Q))
set_option maxRecDepth 100000 in
set_option maxHeartbeats 4000000 in
theorem s_X12_thrown_0 {l : Launch} {g : AG} {h : AH} {x0 : Nat}  {Q : Int32 → AH → Prop} (hb : (Is 194 x0 11) ∧ ( Q (h.1 x0 0) h)) : L_X12_thrown_0 l g h x0  Q := by
  obtain ⟨i1, hb⟩ := hb
  refine wp_aload_n 0 dX12_thrown_0 rfl rfl ?_
  refine wp_getI dX12_thrown_1 fl_X12_1 i1 ?_
  exact wp_iret rfl dX12_thrown_4 ⟨_, rfl, hb⟩
theorem c_X12_thrown {l : Launch} {g : AG} {h : AH} {x0 : Nat}  {Q : Int32 → AH → Prop} (hb : L_X12_thrown_0 l g h x0  Q) : C_X12_thrown l g h x0  Q := ax_met rfl (Nat.le_of_ble_eq_true rfl) hb
def C_X12_refused (l : Launch) (g : AG) (h : AH) (x0 : Nat) (x1 : Int32)  (Q : Int32 → AH → Prop) : Prop := Ct l g mX12_refused 0 0 194 194 h [.ref x0, .int x1] (ax_QI Q)
def L_X12_refused_0 (l : Launch) (g : AG) (h : AH) (x0 : Nat) (x1 : Int32)  (Q : Int32 → AH → Prop) : Prop := Wp l g mX12_refused 0 0 194 194 194 0 [(0, .ref x0), (1, .int x1)] [] h (FM g 194 194 (ax_QI Q))
set_option maxRecDepth 100000 in
set_option maxHeartbeats 4000000 in
theorem s_X12_refused_0 {l : Launch} {g : AG} {h : AH} {x0 : Nat} {x1 : Int32}  {Q : Int32 → AH → Prop} (hb : (Is 194 x0 11) ∧ ( ∀ h2 : AH, h2 = ax_setI h x0 1 x1 → ( ∀ h4 : AH, h4 = ax_setI h2 x0 2 (-1) → ( Q (-1) h4)))) : L_X12_refused_0 l g h x0 x1  Q := by
  obtain ⟨i1, hb⟩ := hb
  refine wp_aload_n 0 dX12_refused_0 rfl rfl ?_
  refine wp_iload_n 1 dX12_refused_1 rfl rfl ?_
  refine wp_putI dX12_refused_2 fl_X12_7 (Or.inl rfl) i1 ?_
  refine wp_topH (fun h2 e3 => ?_)
  have hb := hb h2 e3
  refine wp_aload_n 0 dX12_refused_5 rfl rfl ?_
  refine wp_iconst (v := (-1)) dX12_refused_6 (by decide) ?_
  refine wp_putI dX12_refused_7 fl_X12_10 (Or.inl rfl) i1 ?_
  refine wp_topH (fun h4 e5 => ?_)
  have hb := hb h4 e5
  refine wp_iconst (v := (-1)) dX12_refused_10 (by decide) ?_
  exact wp_iret rfl dX12_refused_11 ⟨_, rfl, hb⟩
theorem c_X12_refused {l : Launch} {g : AG} {h : AH} {x0 : Nat} {x1 : Int32}  {Q : Int32 → AH → Prop} (hb : L_X12_refused_0 l g h x0 x1  Q) : C_X12_refused l g h x0 x1  Q := ax_met rfl (Nat.le_of_ble_eq_true rfl) hb
def C_X12_done (l : Launch) (g : AG) (h : AH) (x0 : Nat) (x1 : Int32)  (Q : Int32 → AH → Prop) : Prop := Ct l g mX12_done 0 0 194 194 h [.ref x0, .int x1] (ax_QI Q)
def L_X12_done_0 (l : Launch) (g : AG) (h : AH) (x0 : Nat) (x1 : Int32)  (Q : Int32 → AH → Prop) : Prop := Wp l g mX12_done 0 0 194 194 194 0 [(0, .ref x0), (1, .int x1)] [] h (FM g 194 194 (ax_QI Q))
set_option maxRecDepth 100000 in
set_option maxHeartbeats 4000000 in
theorem s_X12_done_0 {l : Launch} {g : AG} {h : AH} {x0 : Nat} {x1 : Int32}  {Q : Int32 → AH → Prop} (hb : (Is 194 x0 11) ∧ ( ∀ h2 : AH, h2 = ax_setI h x0 1 0 → ( ∀ h4 : AH, h4 = ax_setI h2 x0 2 (-1) → ( Q x1 h4)))) : L_X12_done_0 l g h x0 x1  Q := by
  obtain ⟨i1, hb⟩ := hb
  refine wp_aload_n 0 dX12_done_0 rfl rfl ?_
  refine wp_iconst (v := 0) dX12_done_1 (by decide) ?_
  refine wp_putI dX12_done_2 fl_X12_7 (Or.inl rfl) i1 ?_
  refine wp_topH (fun h2 e3 => ?_)
  have hb := hb h2 e3
  refine wp_aload_n 0 dX12_done_5 rfl rfl ?_
  refine wp_iconst (v := (-1)) dX12_done_6 (by decide) ?_
  refine wp_putI dX12_done_7 fl_X12_10 (Or.inl rfl) i1 ?_
  refine wp_topH (fun h4 e5 => ?_)
  have hb := hb h4 e5
  refine wp_iload_n 1 dX12_done_10 rfl rfl ?_
  exact wp_iret rfl dX12_done_11 ⟨_, rfl, hb⟩
theorem c_X12_done {l : Launch} {g : AG} {h : AH} {x0 : Nat} {x1 : Int32}  {Q : Int32 → AH → Prop} (hb : L_X12_done_0 l g h x0 x1  Q) : C_X12_done l g h x0 x1  Q := ax_met rfl (Nat.le_of_ble_eq_true rfl) hb
def C_X12_isApp (l : Launch) (g : AG) (h : AH) (x0 : Nat) (x1 : Int32)  (Q : Int32 → AH → Prop) : Prop := Ct l g mX12_isApp 0 0 194 194 h [.ref x0, .int x1] (ax_QI Q)
def L_X12_isApp_0 (l : Launch) (g : AG) (h : AH) (x0 : Nat) (x1 : Int32)  (Q : Int32 → AH → Prop) : Prop := Wp l g mX12_isApp 0 0 194 194 194 0 [(0, .ref x0), (1, .int x1)] [] h (FM g 194 194 (ax_QI Q))
set_option maxRecDepth 100000 in
set_option maxHeartbeats 4000000 in
theorem s_X12_isApp_0 {l : Launch} {g : AG} {h : AH} {x0 : Nat} {x1 : Int32}  {Q : Int32 → AH → Prop} (hb : ((x1 < 0 → (Q 0 h)) ∧ (¬ (x1 < 0) → (((2 ≤ x1 → (Q 0 h)) ∧ (¬ (2 ≤ x1) → ((Is 194 x0 11) ∧ ( (Is 194 (h.2.2 x0 6) 23) ∧ ( (vp_in x1 (ax_s (h.2.2 x0 6)).2) ∧ ( ((h.1 (h.2.2 x0 6) x1.toNatClampNeg = 0 → (Q 0 h)) ∧ (¬ (h.1 (h.2.2 x0 6) x1.toNatClampNeg = 0) → (Q 1 h))))))))))))) : L_X12_isApp_0 l g h x0 x1  Q := by
  refine wp_iload_n 1 dX12_isApp_0 rfl rfl ?_
  refine wp_if_lt (tgt := 22) dX12_isApp_1 (by decide) (fun c1 => ?_) (fun c1 => ?_)
  · have hb := hb.1 c1
    refine wp_iconst (v := 0) dX12_isApp_22 (by decide) ?_
    exact wp_zret rfl dX12_isApp_23 (Or.inl rfl) ⟨_, rfl, hb⟩
  · have hb := hb.2 c1
    refine wp_iload_n 1 dX12_isApp_4 rfl rfl ?_
    refine wp_iconst (v := 2) dX12_isApp_5 (by decide) ?_
    refine wp_icmp_ge (tgt := 22) dX12_isApp_6 (by decide) (fun c2 => ?_) (fun c2 => ?_)
    · have hb := hb.1 c2
      refine wp_iconst (v := 0) dX12_isApp_22 (by decide) ?_
      exact wp_zret rfl dX12_isApp_23 (Or.inl rfl) ⟨_, rfl, hb⟩
    · have hb := hb.2 c2
      obtain ⟨i3, hb⟩ := hb
      refine wp_aload_n 0 dX12_isApp_9 rfl rfl ?_
      obtain ⟨i4, hb⟩ := hb
      refine wp_getR dX12_isApp_10 fl_X12_30 i3 (i4.ne (by decide)) ?_
      refine wp_iload_n 1 dX12_isApp_13 rfl rfl ?_
      obtain ⟨b5, hb⟩ := hb
      refine wp_zaload dX12_isApp_14 i4 b5 ?_
      refine wp_if_eq (tgt := 22) dX12_isApp_15 (by decide) (fun c6 => ?_) (fun c6 => ?_)
      · have hb := hb.1 c6
        refine wp_iconst (v := 0) dX12_isApp_22 (by decide) ?_
        exact wp_zret rfl dX12_isApp_23 (Or.inl rfl) ⟨_, rfl, hb⟩
      · have hb := hb.2 c6
        refine wp_iconst (v := 1) dX12_isApp_18 (by decide) ?_
        refine wp_goto (tgt := 23) dX12_isApp_19 (by decide) ?_
        exact wp_zret rfl dX12_isApp_23 (Or.inr rfl) ⟨_, rfl, hb⟩
theorem c_X12_isApp {l : Launch} {g : AG} {h : AH} {x0 : Nat} {x1 : Int32}  {Q : Int32 → AH → Prop} (hb : L_X12_isApp_0 l g h x0 x1  Q) : C_X12_isApp l g h x0 x1  Q := ax_met rfl (Nat.le_of_ble_eq_true rfl) hb
def C_X12_stop (l : Launch) (g : AG) (h : AH) (x0 : Nat) (x1 : Int32) (x2 : Int32)  (Q : Nat → AH → Prop) : Prop := Ct l g mX12_stop 0 0 194 194 h [.ref x0, .int x1, .int x2] (ax_QR Q)
def L_X12_stop_0 (l : Launch) (g : AG) (h : AH) (x0 : Nat) (x1 : Int32) (x2 : Int32)  (Q : Nat → AH → Prop) : Prop := Wp l g mX12_stop 0 0 194 194 194 0 [(0, .ref x0), (1, .int x1), (2, .int x2)] [] h (FM g 194 194 (ax_QR Q))
set_option maxRecDepth 100000 in
set_option maxHeartbeats 4000000 in
theorem s_X12_stop_0 {l : Launch} {g : AG} {h : AH} {x0 : Nat} {x1 : Int32} {x2 : Int32}  {Q : Nat → AH → Prop} (hb : (Is 194 x0 11) ∧ ( (Is 194 (h.2.2 x0 9) 10) ∧ ( ∀ h3 : AH, h3 = ax_setI h (h.2.2 x0 9) 6 x1 → ( (Is 194 (h3.2.2 x0 9) 10) ∧ ( ∀ h6 : AH, h6 = ax_setI h3 (h3.2.2 x0 9) 7 x2 → ( (Is 194 (h6.2.2 x0 9) 10) ∧ ( Q (h6.2.2 x0 9) h6))))))) : L_X12_stop_0 l g h x0 x1 x2  Q := by
  obtain ⟨i1, hb⟩ := hb
  refine wp_aload_n 0 dX12_stop_0 rfl rfl ?_
  obtain ⟨i2, hb⟩ := hb
  refine wp_getR dX12_stop_1 fl_X12_44 i1 (i2.ne (by decide)) ?_
  refine wp_iload_n 1 dX12_stop_4 rfl rfl ?_
  refine wp_putI dX12_stop_5 fl_X12_131 (Or.inl rfl) i2 ?_
  refine wp_topH (fun h3 e4 => ?_)
  have hb := hb h3 e4
  refine wp_aload_n 0 dX12_stop_8 rfl rfl ?_
  obtain ⟨i5, hb⟩ := hb
  refine wp_getR dX12_stop_9 fl_X12_44 i1 (i5.ne (by decide)) ?_
  refine wp_iload_n 2 dX12_stop_12 rfl rfl ?_
  refine wp_putI dX12_stop_13 fl_X12_133 (Or.inl rfl) i5 ?_
  refine wp_topH (fun h6 e7 => ?_)
  have hb := hb h6 e7
  refine wp_aload_n 0 dX12_stop_16 rfl rfl ?_
  obtain ⟨i8, hb⟩ := hb
  refine wp_getR dX12_stop_17 fl_X12_44 i1 (i8.ne (by decide)) ?_
  exact wp_aret rfl dX12_stop_20 ⟨_, rfl, hb⟩
theorem c_X12_stop {l : Launch} {g : AG} {h : AH} {x0 : Nat} {x1 : Int32} {x2 : Int32}  {Q : Nat → AH → Prop} (hb : L_X12_stop_0 l g h x0 x1 x2  Q) : C_X12_stop l g h x0 x1 x2  Q := ax_met rfl (Nat.le_of_ble_eq_true rfl) hb
def C_X12_byteAt (l : Launch) (g : AG) (h : AH) (x0 : Nat) (x1 : Int32)  (Q : Int32 → AH → Prop) : Prop := Ct l g mX12_byteAt 0 0 194 194 h [.ref x0, .int x1] (ax_QI Q)
def L_X12_byteAt_0 (l : Launch) (g : AG) (h : AH) (x0 : Nat) (x1 : Int32)  (Q : Int32 → AH → Prop) : Prop := Wp l g mX12_byteAt 0 0 194 194 194 0 [(0, .ref x0), (1, .int x1)] [] h (FM g 194 194 (ax_QI Q))
set_option maxRecDepth 100000 in
set_option maxHeartbeats 4000000 in
theorem s_X12_byteAt_0 {l : Launch} {g : AG} {h : AH} {x0 : Nat} {x1 : Int32}  {Q : Int32 → AH → Prop} (hb : (Is 194 x0 11) ∧ ( ((h.1 x0 12 ≤ x1 → (Q (-1) h)) ∧ (¬ (h.1 x0 12 ≤ x1) → ((Is 194 (h.2.2 x0 10) 22) ∧ ( (vp_in x1 (ax_s (h.2.2 x0 10)).2) ∧ ( Q ((h.1 (h.2.2 x0 10) x1.toNatClampNeg) &&& 255) h))))))) : L_X12_byteAt_0 l g h x0 x1  Q := by
  refine wp_iload_n 1 dX12_byteAt_0 rfl rfl ?_
  obtain ⟨i1, hb⟩ := hb
  refine wp_aload_n 0 dX12_byteAt_1 rfl rfl ?_
  refine wp_getI dX12_byteAt_2 fl_X12_136 i1 ?_
  refine wp_icmp_ge (tgt := 21) dX12_byteAt_5 (by decide) (fun c2 => ?_) (fun c2 => ?_)
  · have hb := hb.1 c2
    refine wp_iconst (v := (-1)) dX12_byteAt_21 (by decide) ?_
    exact wp_iret rfl dX12_byteAt_22 ⟨_, rfl, hb⟩
  · have hb := hb.2 c2
    refine wp_aload_n 0 dX12_byteAt_8 rfl rfl ?_
    obtain ⟨i3, hb⟩ := hb
    refine wp_getR dX12_byteAt_9 fl_X12_48 i1 (i3.ne (by decide)) ?_
    refine wp_iload_n 1 dX12_byteAt_12 rfl rfl ?_
    obtain ⟨b4, hb⟩ := hb
    refine wp_baload dX12_byteAt_13 i3 b4 ?_
    refine wp_sipush (v := 255) dX12_byteAt_14 (by decide) ?_
    refine wp_iand dX12_byteAt_17 ?_
    refine wp_goto (tgt := 22) dX12_byteAt_18 (by decide) ?_
    exact wp_iret rfl dX12_byteAt_22 ⟨_, rfl, hb⟩
theorem c_X12_byteAt {l : Launch} {g : AG} {h : AH} {x0 : Nat} {x1 : Int32}  {Q : Int32 → AH → Prop} (hb : L_X12_byteAt_0 l g h x0 x1  Q) : C_X12_byteAt l g h x0 x1  Q := ax_met rfl (Nat.le_of_ble_eq_true rfl) hb
def C_X12_isLetter (l : Launch) (g : AG) (h : AH) (x0 : Int32)  (Q : Int32 → AH → Prop) : Prop := Ct l g mX12_isLetter 0 0 194 194 h [.int x0] (ax_QI Q)
def L_X12_isLetter_0 (l : Launch) (g : AG) (h : AH) (x0 : Int32)  (Q : Int32 → AH → Prop) : Prop := Wp l g mX12_isLetter 0 0 194 194 194 0 [(0, .int x0)] [] h (FM g 194 194 (ax_QI Q))
set_option maxRecDepth 100000 in
set_option maxHeartbeats 4000000 in
theorem s_X12_isLetter_0 {l : Launch} {g : AG} {h : AH} {x0 : Int32}  {Q : Int32 → AH → Prop} (hb : ((x0 < 97 → (Q 0 h)) ∧ (¬ (x0 < 97) → (((122 < x0 → (Q 0 h)) ∧ (¬ (122 < x0) → (Q 1 h))))))) : L_X12_isLetter_0 l g h x0  Q := by
  refine wp_iload_n 0 dX12_isLetter_0 rfl rfl ?_
  refine wp_bipush (v := 97) dX12_isLetter_1 (by decide) ?_
  refine wp_icmp_lt (tgt := 16) dX12_isLetter_3 (by decide) (fun c1 => ?_) (fun c1 => ?_)
  · have hb := hb.1 c1
    refine wp_iconst (v := 0) dX12_isLetter_16 (by decide) ?_
    exact wp_zret rfl dX12_isLetter_17 (Or.inl rfl) ⟨_, rfl, hb⟩
  · have hb := hb.2 c1
    refine wp_iload_n 0 dX12_isLetter_6 rfl rfl ?_
    refine wp_bipush (v := 122) dX12_isLetter_7 (by decide) ?_
    refine wp_icmp_gt (tgt := 16) dX12_isLetter_9 (by decide) (fun c2 => ?_) (fun c2 => ?_)
    · have hb := hb.1 c2
      refine wp_iconst (v := 0) dX12_isLetter_16 (by decide) ?_
      exact wp_zret rfl dX12_isLetter_17 (Or.inl rfl) ⟨_, rfl, hb⟩
    · have hb := hb.2 c2
      refine wp_iconst (v := 1) dX12_isLetter_12 (by decide) ?_
      refine wp_goto (tgt := 17) dX12_isLetter_13 (by decide) ?_
      exact wp_zret rfl dX12_isLetter_17 (Or.inr rfl) ⟨_, rfl, hb⟩
theorem c_X12_isLetter {l : Launch} {g : AG} {h : AH} {x0 : Int32}  {Q : Int32 → AH → Prop} (hb : L_X12_isLetter_0 l g h x0  Q) : C_X12_isLetter l g h x0  Q := ax_met rfl (Nat.le_of_ble_eq_true rfl) hb
