def C_X0_varNamed (l : Launch) (g : AG) (h : AH) (x0 : Nat) (x1 : Int64)  (Q : Int32 → AH → Prop) : Prop := Ct l g mX0_varNamed 1 25 194 194 h [.ref x0, .long x1] (ax_QI Q)
def L_X0_varNamed_0 (l : Launch) (g : AG) (h : AH) (x0 : Nat) (x1 : Int64)  (Q : Int32 → AH → Prop) : Prop := Wp l g mX0_varNamed 1 25 194 194 194 0 [(0, .ref x0), (1, .long x1)] [] h (FM g 194 194 (ax_QI Q))
set_option maxRecDepth 100000 in
set_option maxHeartbeats 4000000 in
theorem s_X0_varNamed_0 {l : Launch} {g : AG} {h : AH} {x0 : Nat} {x1 : Int64}  {Q : Int32 → AH → Prop} (hb : (Is 194 x0 0) ∧ ( (Is 194 (h.2.2 x0 7) 21) ∧ ( C_X0_placeOf l g h x1 (h.2.2 x0 7) 0 (h.1 x0 2) (fun r5 h4 => ( Q r5 h4))))) : L_X0_varNamed_0 l g h x0 x1  Q := by
  refine wp_lload_n 1 dX0_varNamed_0 rfl rfl ?_
  obtain ⟨i1, hb⟩ := hb
  refine wp_aload_n 0 dX0_varNamed_1 rfl rfl ?_
  obtain ⟨i2, hb⟩ := hb
  refine wp_getR dX0_varNamed_2 fl_X0_34 i1 (i2.ne (by decide)) ?_
  refine wp_iconst (v := 0) dX0_varNamed_5 (by decide) ?_
  refine wp_aload_n 0 dX0_varNamed_6 rfl rfl ?_
  refine wp_getI dX0_varNamed_7 fl_X0_18 i1 ?_
  refine wp_callS (as := [.long x1, .ref (h.2.2 x0 7), .int 0, .int (h.1 x0 2)]) dX0_varNamed_10 cb_X0_placeOf lk_X0_94 st_X0_placeOf rfl (Nat.le_of_ble_eq_true rfl) ⟨by decide, by decide⟩ ⟨Nat.le_refl _, Nat.le_refl _, Nat.le_refl _⟩ hb (fun r0 h4 hb => ?_)
  obtain ⟨r5, rfl, hb⟩ := hb
  exact wp_iret rfl dX0_varNamed_13 ⟨_, rfl, hb⟩
theorem c_X0_varNamed {l : Launch} {g : AG} {h : AH} {x0 : Nat} {x1 : Int64}  {Q : Int32 → AH → Prop} (hb : L_X0_varNamed_0 l g h x0 x1  Q) : C_X0_varNamed l g h x0 x1  Q := ax_met rfl (Nat.le_of_ble_eq_true rfl) hb
def C_X7_isNewName (l : Launch) (g : AG) (h : AH) (x0 : Nat) (x1 : Int32)  (Q : Int32 → AH → Prop) : Prop := Ct l g mX7_isNewName 1 21 194 194 h [.ref x0, .int x1] (ax_QI Q)
def L_X7_isNewName_0 (l : Launch) (g : AG) (h : AH) (x0 : Nat) (x1 : Int32)  (Q : Int32 → AH → Prop) : Prop := Wp l g mX7_isNewName 1 21 194 194 194 0 [(0, .ref x0), (1, .int x1)] [] h (FM g 194 194 (ax_QI Q))
set_option maxRecDepth 100000 in
set_option maxHeartbeats 4000000 in
theorem s_X7_isNewName_0 {l : Launch} {g : AG} {h : AH} {x0 : Nat} {x1 : Int32}  {Q : Int32 → AH → Prop} (hb : (Is 194 x0 6) ∧ ( (Is 194 (h.2.2 x0 0) 7) ∧ ( ((h.1 (h.2.2 x0 0) 3 = 1 → (((x1 = (-1) → (Q 1 h)) ∧ (¬ (x1 = (-1)) → (C_X7_faulty l g h x0 3 (fun r7 h6 => ( ((r7 = 0 → (Q 0 h6)) ∧ (¬ (r7 = 0) → (Q 1 h6)))))))))) ∧ (¬ (h.1 (h.2.2 x0 0) 3 = 1) → (C_X7_faulty l g h x0 1 (fun r11 h10 => ( (r11 = 0 ∨ r11 = 1) ∧ ( Q r11 h10))))))))) : L_X7_isNewName_0 l g h x0 x1  Q := by
  obtain ⟨i1, hb⟩ := hb
  refine wp_aload_n 0 dX7_isNewName_0 rfl rfl ?_
  obtain ⟨i2, hb⟩ := hb
  refine wp_getR dX7_isNewName_1 fl_X7_12 i1 (i2.ne (by decide)) ?_
  refine wp_getI dX7_isNewName_4 fl_X7_80 i2 ?_
  refine wp_iconst (v := 1) dX7_isNewName_7 (by decide) ?_
  refine wp_icmp_eq (tgt := 17) dX7_isNewName_8 (by decide) (fun c3 => ?_) (fun c3 => ?_)
  · have hb := hb.1 c3
    refine wp_iload_n 1 dX7_isNewName_17 rfl rfl ?_
    refine wp_iconst (v := (-1)) dX7_isNewName_18 (by decide) ?_
    refine wp_icmp_eq (tgt := 30) dX7_isNewName_19 (by decide) (fun c4 => ?_) (fun c4 => ?_)
    · have hb := hb.1 c4
      refine wp_iconst (v := 1) dX7_isNewName_30 (by decide) ?_
      refine wp_goto (tgt := 35) dX7_isNewName_31 (by decide) ?_
      exact wp_zret rfl dX7_isNewName_35 (Or.inr rfl) ⟨_, rfl, hb⟩
    · have hb := hb.2 c4
      refine wp_aload_n 0 dX7_isNewName_22 rfl rfl ?_
      refine wp_iconst (v := 3) dX7_isNewName_23 (by decide) ?_
      refine wp_callV (as := [.int 3]) dX7_isNewName_24 cb_X7_faulty lk_X7_90 im_X7_faulty se_X7_faulty rfl (Nat.le_of_ble_eq_true rfl) ⟨by decide, by decide⟩ ⟨Nat.le_refl _, Nat.le_refl _, Nat.le_refl _⟩ i1 rfl (by decide) hb (fun r0 h6 hb => ?_)
      obtain ⟨r7, rfl, hb⟩ := hb
      refine wp_if_eq (tgt := 34) dX7_isNewName_27 (by decide) (fun c8 => ?_) (fun c8 => ?_)
      · have hb := hb.1 c8
        refine wp_iconst (v := 0) dX7_isNewName_34 (by decide) ?_
        exact wp_zret rfl dX7_isNewName_35 (Or.inl rfl) ⟨_, rfl, hb⟩
      · have hb := hb.2 c8
        refine wp_iconst (v := 1) dX7_isNewName_30 (by decide) ?_
        refine wp_goto (tgt := 35) dX7_isNewName_31 (by decide) ?_
        exact wp_zret rfl dX7_isNewName_35 (Or.inr rfl) ⟨_, rfl, hb⟩
  · have hb := hb.2 c3
    refine wp_aload_n 0 dX7_isNewName_11 rfl rfl ?_
    refine wp_iconst (v := 1) dX7_isNewName_12 (by decide) ?_
    refine wp_callV (as := [.int 1]) dX7_isNewName_13 cb_X7_faulty lk_X7_90 im_X7_faulty se_X7_faulty rfl (Nat.le_of_ble_eq_true rfl) ⟨by decide, by decide⟩ ⟨Nat.le_refl _, Nat.le_refl _, Nat.le_refl _⟩ i1 rfl (by decide) hb (fun r0 h10 hb => ?_)
    obtain ⟨r11, rfl, hb⟩ := hb
    obtain ⟨q12, hb⟩ := hb
    exact wp_zret rfl dX7_isNewName_16 q12 ⟨_, rfl, hb⟩
theorem c_X7_isNewName {l : Launch} {g : AG} {h : AH} {x0 : Nat} {x1 : Int32}  {Q : Int32 → AH → Prop} (hb : L_X7_isNewName_0 l g h x0 x1  Q) : C_X7_isNewName l g h x0 x1  Q := ax_met rfl (Nat.le_of_ble_eq_true rfl) hb
def C_X7_takeVarName (l : Launch) (g : AG) (h : AH) (x0 : Nat)  (Q : Int32 → AH → Prop) : Prop := Ct l g mX7_takeVarName 2 47 194 194 h [.ref x0] (ax_QI Q)
def L_X7_takeVarName_0 (l : Launch) (g : AG) (h : AH) (x0 : Nat)  (Q : Int32 → AH → Prop) : Prop := Wp l g mX7_takeVarName 2 47 194 194 194 0 [(0, .ref x0)] [] h (FM g 194 194 (ax_QI Q))
set_option maxRecDepth 100000 in
set_option maxHeartbeats 4000000 in
theorem s_X7_takeVarName_0 {l : Launch} {g : AG} {h : AH} {x0 : Nat}  {Q : Int32 → AH → Prop} (hb : (Is 194 x0 6) ∧ ( (Is 194 (h.2.2 x0 1) 0) ∧ ( (Is 194 (h.2.2 x0 0) 7) ∧ ( C_X0_varNamed l g h (h.2.2 x0 1) (h.2.1 (h.2.2 x0 0) 5) (fun r6 h5 => ( C_X7_isNewName l g h5 x0 r6 (fun r9 h8 => ( ((¬ r9 = 0 → ((Is 194 (h8.2.2 x0 0) 7) ∧ ( ∀ h12 : AH, h12 = ax_setL h8 x0 5 (h8.2.1 (h8.2.2 x0 0) 5) → ( C_X7_awaits l g h12 x0 2 (fun r16 h15 => ( (r16 = 0 ∨ r16 = 1) ∧ ( Q r16 h15))))))) ∧ (r9 = 0 → (Q 0 h8))))))))))) : L_X7_takeVarName_0 l g h x0  Q := by
  obtain ⟨i1, hb⟩ := hb
  refine wp_aload_n 0 dX7_takeVarName_0 rfl rfl ?_
  refine wp_aload_n 0 dX7_takeVarName_1 rfl rfl ?_
  obtain ⟨i2, hb⟩ := hb
  refine wp_getR dX7_takeVarName_2 fl_X7_64 i1 (i2.ne (by decide)) ?_
  refine wp_aload_n 0 dX7_takeVarName_5 rfl rfl ?_
  obtain ⟨i3, hb⟩ := hb
  refine wp_getR dX7_takeVarName_6 fl_X7_12 i1 (i3.ne (by decide)) ?_
  refine wp_getL dX7_takeVarName_9 fl_X7_168 i3 ?_
  refine wp_callVN (as := [.long (h.2.1 (h.2.2 x0 0) 5)]) dX7_takeVarName_12 cb_X0_varNamed lk_X7_171 im_X0_varNamed se_X0_varNamed rfl (Nat.le_of_ble_eq_true rfl) ⟨by decide, by decide⟩ ⟨Nat.le_refl _, Nat.le_refl _, Nat.le_refl _⟩ i2 rfl (by decide) hb (fun r0 h5 hb => ?_)
  obtain ⟨r6, rfl, hb⟩ := hb
  refine wp_callV (as := [.int r6]) dX7_takeVarName_15 cb_X7_isNewName lk_X7_183 im_X7_isNewName se_X7_isNewName rfl (Nat.le_of_ble_eq_true rfl) ⟨by decide, by decide⟩ ⟨Nat.le_refl _, Nat.le_refl _, Nat.le_refl _⟩ i1 rfl (by decide) hb (fun r0 h8 hb => ?_)
  obtain ⟨r9, rfl, hb⟩ := hb
  refine wp_if_ne (tgt := 23) dX7_takeVarName_18 (by decide) (fun c10 => ?_) (fun c10 => ?_)
  · have hb := hb.1 c10
    refine wp_aload_n 0 dX7_takeVarName_23 rfl rfl ?_
    refine wp_aload_n 0 dX7_takeVarName_24 rfl rfl ?_
    obtain ⟨i11, hb⟩ := hb
    refine wp_getR dX7_takeVarName_25 fl_X7_12 i1 (i11.ne (by decide)) ?_
    refine wp_getL dX7_takeVarName_28 fl_X7_168 i11 ?_
    refine wp_putL dX7_takeVarName_31 fl_X7_28 (Or.inl rfl) i1 ?_
    refine wp_topH (fun h12 e13 => ?_)
    have hb := hb h12 e13
    refine wp_aload_n 0 dX7_takeVarName_34 rfl rfl ?_
    refine wp_iconst (v := 2) dX7_takeVarName_35 (by decide) ?_
    refine wp_callV (as := [.int 2]) dX7_takeVarName_36 cb_X7_awaits lk_X7_131 im_X7_awaits se_X7_awaits rfl (Nat.le_of_ble_eq_true rfl) ⟨by decide, by decide⟩ ⟨Nat.le_refl _, Nat.le_refl _, Nat.le_refl _⟩ i1 rfl (by decide) hb (fun r0 h15 hb => ?_)
    obtain ⟨r16, rfl, hb⟩ := hb
    obtain ⟨q17, hb⟩ := hb
    exact wp_zret rfl dX7_takeVarName_39 q17 ⟨_, rfl, hb⟩
  · have hb := hb.2 c10
    refine wp_iconst (v := 0) dX7_takeVarName_21 (by decide) ?_
    exact wp_zret rfl dX7_takeVarName_22 (Or.inl rfl) ⟨_, rfl, hb⟩
theorem c_X7_takeVarName {l : Launch} {g : AG} {h : AH} {x0 : Nat}  {Q : Int32 → AH → Prop} (hb : L_X7_takeVarName_0 l g h x0  Q) : C_X7_takeVarName l g h x0  Q := ax_met rfl (Nat.le_of_ble_eq_true rfl) hb
def C_X7_isNumber (l : Launch) (g : AG) (h : AH) (x0 : Nat) (x1 : Int32) (x2 : Int32)  (Q : Int32 → AH → Prop) : Prop := Ct l g mX7_isNumber 1 21 194 194 h [.ref x0, .int x1, .int x2] (ax_QI Q)
def L_X7_isNumber_0 (l : Launch) (g : AG) (h : AH) (x0 : Nat) (x1 : Int32) (x2 : Int32)  (Q : Int32 → AH → Prop) : Prop := Wp l g mX7_isNumber 1 21 194 194 194 0 [(0, .ref x0), (1, .int x1), (2, .int x2)] [] h (FM g 194 194 (ax_QI Q))
def L_X7_isNumber_39 (l : Launch) (g : AG) (h : AH) (x0 : Nat)  (Q : Int32 → AH → Prop) : Prop := Wp l g mX7_isNumber 1 21 194 194 194 39 [(0, .ref x0)] [] h (FM g 194 194 (ax_QI Q))
set_option maxRecDepth 100000 in
set_option maxHeartbeats 4000000 in
theorem s_X7_isNumber_0 {l : Launch} {g : AG} {h : AH} {x0 : Nat} {x1 : Int32} {x2 : Int32}  {Q : Int32 → AH → Prop} (hb : (Is 194 x0 6) ∧ ( (Is 194 (h.2.2 x0 0) 7) ∧ ( ((h.1 (h.2.2 x0 0) 3 = 2 → ((Is 194 (h.2.2 x0 0) 7) ∧ ( ((h.1 (h.2.2 x0 0) 6 < x1 → (L_X7_isNumber_39 l g h x0  Q)) ∧ (¬ (h.1 (h.2.2 x0 0) 6 < x1) → ((Is 194 (h.2.2 x0 0) 7) ∧ ( ((h.1 (h.2.2 x0 0) 6 ≤ x2 → (Q 1 h)) ∧ (¬ (h.1 (h.2.2 x0 0) 6 ≤ x2) → (L_X7_isNumber_39 l g h x0  Q)))))))))) ∧ (¬ (h.1 (h.2.2 x0 0) 3 = 2) → (C_X7_faulty l g h x0 1 (fun r10 h9 => ( (r10 = 0 ∨ r10 = 1) ∧ ( Q r10 h9))))))))) : L_X7_isNumber_0 l g h x0 x1 x2  Q := by
  obtain ⟨i1, hb⟩ := hb
  refine wp_aload_n 0 dX7_isNumber_0 rfl rfl ?_
  obtain ⟨i2, hb⟩ := hb
  refine wp_getR dX7_isNumber_1 fl_X7_12 i1 (i2.ne (by decide)) ?_
  refine wp_getI dX7_isNumber_4 fl_X7_80 i2 ?_
  refine wp_iconst (v := 2) dX7_isNumber_7 (by decide) ?_
  refine wp_icmp_eq (tgt := 17) dX7_isNumber_8 (by decide) (fun c3 => ?_) (fun c3 => ?_)
  · have hb := hb.1 c3
    refine wp_aload_n 0 dX7_isNumber_17 rfl rfl ?_
    obtain ⟨i4, hb⟩ := hb
    refine wp_getR dX7_isNumber_18 fl_X7_12 i1 (i4.ne (by decide)) ?_
    refine wp_getI dX7_isNumber_21 fl_X7_165 i4 ?_
    refine wp_iload_n 1 dX7_isNumber_24 rfl rfl ?_
    refine wp_icmp_lt (tgt := 39) dX7_isNumber_25 (by decide) (fun c5 => ?_) (fun c5 => ?_)
    · have hb := hb.1 c5
      exact wp_sub [0] rfl hb
    · have hb := hb.2 c5
      refine wp_aload_n 0 dX7_isNumber_28 rfl rfl ?_
      obtain ⟨i6, hb⟩ := hb
      refine wp_getR dX7_isNumber_29 fl_X7_12 i1 (i6.ne (by decide)) ?_
      refine wp_getI dX7_isNumber_32 fl_X7_165 i6 ?_
      refine wp_iload_n 2 dX7_isNumber_35 rfl rfl ?_
      refine wp_icmp_le (tgt := 47) dX7_isNumber_36 (by decide) (fun c7 => ?_) (fun c7 => ?_)
      · have hb := hb.1 c7
        refine wp_iconst (v := 1) dX7_isNumber_47 (by decide) ?_
        refine wp_goto (tgt := 52) dX7_isNumber_48 (by decide) ?_
        exact wp_zret rfl dX7_isNumber_52 (Or.inr rfl) ⟨_, rfl, hb⟩
      · have hb := hb.2 c7
        exact wp_sub [0] rfl hb
  · have hb := hb.2 c3
    refine wp_aload_n 0 dX7_isNumber_11 rfl rfl ?_
    refine wp_iconst (v := 1) dX7_isNumber_12 (by decide) ?_
    refine wp_callV (as := [.int 1]) dX7_isNumber_13 cb_X7_faulty lk_X7_90 im_X7_faulty se_X7_faulty rfl (Nat.le_of_ble_eq_true rfl) ⟨by decide, by decide⟩ ⟨Nat.le_refl _, Nat.le_refl _, Nat.le_refl _⟩ i1 rfl (by decide) hb (fun r0 h9 hb => ?_)
    obtain ⟨r10, rfl, hb⟩ := hb
    obtain ⟨q11, hb⟩ := hb
    exact wp_zret rfl dX7_isNumber_16 q11 ⟨_, rfl, hb⟩
set_option maxRecDepth 100000 in
set_option maxHeartbeats 4000000 in
theorem s_X7_isNumber_39 {l : Launch} {g : AG} {h : AH} {x0 : Nat}  {Q : Int32 → AH → Prop} (hb : (Is 194 x0 6) ∧ ( C_X7_faulty l g h x0 4 (fun r15 h14 => ( ((r15 = 0 → (Q 0 h14)) ∧ (¬ (r15 = 0) → (Q 1 h14))))))) : L_X7_isNumber_39 l g h x0  Q := by
  obtain ⟨i12, hb⟩ := hb
  refine wp_aload_n 0 dX7_isNumber_39 rfl rfl ?_
  refine wp_iconst (v := 4) dX7_isNumber_40 (by decide) ?_
  refine wp_callV (as := [.int 4]) dX7_isNumber_41 cb_X7_faulty lk_X7_90 im_X7_faulty se_X7_faulty rfl (Nat.le_of_ble_eq_true rfl) ⟨by decide, by decide⟩ ⟨Nat.le_refl _, Nat.le_refl _, Nat.le_refl _⟩ i12 rfl (by decide) hb (fun r0 h14 hb => ?_)
  obtain ⟨r15, rfl, hb⟩ := hb
  refine wp_if_eq (tgt := 51) dX7_isNumber_44 (by decide) (fun c16 => ?_) (fun c16 => ?_)
  · have hb := hb.1 c16
    refine wp_iconst (v := 0) dX7_isNumber_51 (by decide) ?_
    exact wp_zret rfl dX7_isNumber_52 (Or.inl rfl) ⟨_, rfl, hb⟩
  · have hb := hb.2 c16
    refine wp_iconst (v := 1) dX7_isNumber_47 (by decide) ?_
    refine wp_goto (tgt := 52) dX7_isNumber_48 (by decide) ?_
    exact wp_zret rfl dX7_isNumber_52 (Or.inr rfl) ⟨_, rfl, hb⟩
theorem c_X7_isNumber {l : Launch} {g : AG} {h : AH} {x0 : Nat} {x1 : Int32} {x2 : Int32}  {Q : Int32 → AH → Prop} (hb : L_X7_isNumber_0 l g h x0 x1 x2  Q) : C_X7_isNumber l g h x0 x1 x2  Q := ax_met rfl (Nat.le_of_ble_eq_true rfl) hb
