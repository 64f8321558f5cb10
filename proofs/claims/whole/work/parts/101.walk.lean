def C_X7_awaits (l : Launch) (g : AG) (h : AH) (x0 : Nat) (x1 : Int32)  (Q : Int32 → AH → Prop) : Prop := Ct l g mX7_awaits 0 0 194 194 h [.ref x0, .int x1] (ax_QI Q)
def L_X7_awaits_0 (l : Launch) (g : AG) (h : AH) (x0 : Nat) (x1 : Int32)  (Q : Int32 → AH → Prop) : Prop := Wp l g mX7_awaits 0 0 194 194 194 0 [(0, .ref x0), (1, .int x1)] [] h (FM g 194 194 (ax_QI Q))
set_option maxRecDepth 100000 in
set_option maxHeartbeats 4000000 in
theorem s_X7_awaits_0 {l : Launch} {g : AG} {h : AH} {x0 : Nat} {x1 : Int32}  {Q : Int32 → AH → Prop} (hb : (Is 194 x0 6) ∧ ( ∀ h2 : AH, h2 = ax_setI h x0 2 x1 → ( Q 1 h2))) : L_X7_awaits_0 l g h x0 x1  Q := by
  obtain ⟨i1, hb⟩ := hb
  refine wp_aload_n 0 dX7_awaits_0 rfl rfl ?_
  refine wp_iload_n 1 dX7_awaits_1 rfl rfl ?_
  refine wp_putI dX7_awaits_2 fl_X7_18 (Or.inl rfl) i1 ?_
  refine wp_topH (fun h2 e3 => ?_)
  have hb := hb h2 e3
  refine wp_iconst (v := 1) dX7_awaits_5 (by decide) ?_
  exact wp_zret rfl dX7_awaits_6 (Or.inr rfl) ⟨_, rfl, hb⟩
theorem c_X7_awaits {l : Launch} {g : AG} {h : AH} {x0 : Nat} {x1 : Int32}  {Q : Int32 → AH → Prop} (hb : L_X7_awaits_0 l g h x0 x1  Q) : C_X7_awaits l g h x0 x1  Q := ax_met rfl rfl (Nat.le_of_ble_eq_true rfl) hb
def C_X7_takeTop (l : Launch) (g : AG) (h : AH) (x0 : Nat)  (Q : Int32 → AH → Prop) : Prop := Ct l g mX7_takeTop 5 142 194 194 h [.ref x0] (ax_QI Q)
def L_X7_takeTop_0 (l : Launch) (g : AG) (h : AH) (x0 : Nat)  (Q : Int32 → AH → Prop) : Prop := Wp l g mX7_takeTop 5 142 194 194 194 0 [(0, .ref x0)] [] h (FM g 194 194 (ax_QI Q))
def L_X7_takeTop_86 (l : Launch) (g : AG) (h : AH) (x0 : Nat)  (Q : Int32 → AH → Prop) : Prop := Wp l g mX7_takeTop 5 142 194 194 194 86 [(0, .ref x0)] [] h (FM g 194 194 (ax_QI Q))
set_option maxRecDepth 100000 in
set_option maxHeartbeats 4000000 in
theorem s_X7_takeTop_0 {l : Launch} {g : AG} {h : AH} {x0 : Nat}  {Q : Int32 → AH → Prop} (hb : (Is 194 x0 6) ∧ ( (Is 194 (h.2.2 x0 0) 7) ∧ ( C_X8_says l g h (h.2.2 x0 0) 1013 (fun r5 h4 => ( ((r5 = 0 → ((Is 194 (h4.2.2 x0 0) 7) ∧ ( C_X8_says l g h4 (h4.2.2 x0 0) 1008 (fun r10 h9 => ( (r10 = 0 ∨ r10 = 1) ∧ ( ∀ h12 : AH, h12 = ax_setI h9 x0 6 r10 → ( (Is 194 (h12.2.2 x0 1) 0) ∧ ( ((0 < h12.1 (h12.2.2 x0 1) 0 → (C_X7_faulty l g h12 x0 1 (fun r18 h17 => ( (r18 = 0 ∨ r18 = 1) ∧ ( Q r18 h17))))) ∧ (¬ (0 < h12.1 (h12.2.2 x0 1) 0) → (((¬ h12.1 x0 6 = 0 → (L_X7_takeTop_86 l g h12 x0  Q)) ∧ (h12.1 x0 6 = 0 → ((Is 194 (h12.2.2 x0 0) 7) ∧ ( C_X8_says l g h12 (h12.2.2 x0 0) 1012 (fun r24 h23 => ( ((¬ r24 = 0 → (L_X7_takeTop_86 l g h23 x0  Q)) ∧ (r24 = 0 → (C_X7_faulty l g h23 x0 1 (fun r28 h27 => ( (r28 = 0 ∨ r28 = 1) ∧ ( Q r28 h27))))))))))))))))))))))) ∧ (¬ (r5 = 0) → ((Is 194 (h4.2.2 x0 1) 0) ∧ ( ((8 ≤ h4.1 (h4.2.2 x0 1) 0 → (C_X7_faulty l g h4 x0 5 (fun r34 h33 => ( (r34 = 0 ∨ r34 = 1) ∧ ( Q r34 h33))))) ∧ (¬ (8 ≤ h4.1 (h4.2.2 x0 1) 0) → (C_X7_awaits l g h4 x0 4 (fun r38 h37 => ( (r38 = 0 ∨ r38 = 1) ∧ ( Q r38 h37))))))))))))))) : L_X7_takeTop_0 l g h x0  Q := by
  obtain ⟨i1, hb⟩ := hb
  refine wp_aload_n 0 dX7_takeTop_0 rfl rfl ?_
  obtain ⟨i2, hb⟩ := hb
  refine wp_getR dX7_takeTop_1 fl_X7_12 i1 (i2.ne (by decide)) ?_
  refine wp_ldcS (q := ("WindowHouse$Reader", 175, "window", 13)) dX7_takeTop_4 (by decide +kernel) rfl rfl (by decide) ?_
  refine wp_callVN (as := [.ref 1013]) dX7_takeTop_6 cb_X8_says lk_X7_127 im_X8_says se_X8_says rfl (Nat.le_of_ble_eq_true rfl) ⟨by decide, by decide⟩ ⟨Nat.le_refl _, Nat.le_refl _, Nat.le_refl _⟩ i2 rfl (by decide) hb (fun r0 h4 hb => ?_)
  obtain ⟨r5, rfl, hb⟩ := hb
  refine wp_if_eq (tgt := 38) dX7_takeTop_9 (by decide) (fun c6 => ?_) (fun c6 => ?_)
  · have hb := hb.1 c6
    refine wp_aload_n 0 dX7_takeTop_38 rfl rfl ?_
    refine wp_aload_n 0 dX7_takeTop_39 rfl rfl ?_
    obtain ⟨i7, hb⟩ := hb
    refine wp_getR dX7_takeTop_40 fl_X7_12 i1 (i7.ne (by decide)) ?_
    refine wp_ldcS (q := ("WindowHouse$Reader", 177, "kept", 8)) dX7_takeTop_43 (by decide +kernel) rfl rfl (by decide) ?_
    refine wp_callVN (as := [.ref 1008]) dX7_takeTop_45 cb_X8_says lk_X7_127 im_X8_says se_X8_says rfl (Nat.le_of_ble_eq_true rfl) ⟨by decide, by decide⟩ ⟨Nat.le_refl _, Nat.le_refl _, Nat.le_refl _⟩ i7 rfl (by decide) hb (fun r0 h9 hb => ?_)
    obtain ⟨r10, rfl, hb⟩ := hb
    obtain ⟨q11, hb⟩ := hb
    refine wp_putZ dX7_takeTop_48 fl_X7_32 (Or.inl rfl) i1 q11 ?_
    refine wp_topH (fun h12 e13 => ?_)
    have hb := hb h12 e13
    refine wp_aload_n 0 dX7_takeTop_51 rfl rfl ?_
    obtain ⟨i14, hb⟩ := hb
    refine wp_getR dX7_takeTop_52 fl_X7_64 i1 (i14.ne (by decide)) ?_
    refine wp_getI dX7_takeTop_55 fl_X7_83 i14 ?_
    refine wp_if_gt (tgt := 80) dX7_takeTop_58 (by decide) (fun c15 => ?_) (fun c15 => ?_)
    · have hb := hb.1 c15
      refine wp_aload_n 0 dX7_takeTop_80 rfl rfl ?_
      refine wp_iconst (v := 1) dX7_takeTop_81 (by decide) ?_
      refine wp_callV (as := [.int 1]) dX7_takeTop_82 cb_X7_faulty lk_X7_90 im_X7_faulty se_X7_faulty rfl (Nat.le_of_ble_eq_true rfl) ⟨by decide, by decide⟩ ⟨Nat.le_refl _, Nat.le_refl _, Nat.le_refl _⟩ i1 rfl (by decide) hb (fun r0 h17 hb => ?_)
      obtain ⟨r18, rfl, hb⟩ := hb
      obtain ⟨q19, hb⟩ := hb
      exact wp_zret rfl dX7_takeTop_85 q19 ⟨_, rfl, hb⟩
    · have hb := hb.2 c15
      refine wp_aload_n 0 dX7_takeTop_61 rfl rfl ?_
      refine wp_getZ dX7_takeTop_62 fl_X7_32 i1 ?_
      refine wp_if_ne (tgt := 86) dX7_takeTop_65 (by decide) (fun c20 => ?_) (fun c20 => ?_)
      · have hb := hb.1 c20
        exact hb
      · have hb := hb.2 c20
        refine wp_aload_n 0 dX7_takeTop_68 rfl rfl ?_
        obtain ⟨i21, hb⟩ := hb
        refine wp_getR dX7_takeTop_69 fl_X7_12 i1 (i21.ne (by decide)) ?_
        refine wp_ldcS (q := ("WindowHouse$Reader", 178, "var", 12)) dX7_takeTop_72 (by decide +kernel) rfl rfl (by decide) ?_
        refine wp_callVN (as := [.ref 1012]) dX7_takeTop_74 cb_X8_says lk_X7_127 im_X8_says se_X8_says rfl (Nat.le_of_ble_eq_true rfl) ⟨by decide, by decide⟩ ⟨Nat.le_refl _, Nat.le_refl _, Nat.le_refl _⟩ i21 rfl (by decide) hb (fun r0 h23 hb => ?_)
        obtain ⟨r24, rfl, hb⟩ := hb
        refine wp_if_ne (tgt := 86) dX7_takeTop_77 (by decide) (fun c25 => ?_) (fun c25 => ?_)
        · have hb := hb.1 c25
          exact hb
        · have hb := hb.2 c25
          refine wp_aload_n 0 dX7_takeTop_80 rfl rfl ?_
          refine wp_iconst (v := 1) dX7_takeTop_81 (by decide) ?_
          refine wp_callV (as := [.int 1]) dX7_takeTop_82 cb_X7_faulty lk_X7_90 im_X7_faulty se_X7_faulty rfl (Nat.le_of_ble_eq_true rfl) ⟨by decide, by decide⟩ ⟨Nat.le_refl _, Nat.le_refl _, Nat.le_refl _⟩ i1 rfl (by decide) hb (fun r0 h27 hb => ?_)
          obtain ⟨r28, rfl, hb⟩ := hb
          obtain ⟨q29, hb⟩ := hb
          exact wp_zret rfl dX7_takeTop_85 q29 ⟨_, rfl, hb⟩
  · have hb := hb.2 c6
    refine wp_aload_n 0 dX7_takeTop_12 rfl rfl ?_
    obtain ⟨i30, hb⟩ := hb
    refine wp_getR dX7_takeTop_13 fl_X7_64 i1 (i30.ne (by decide)) ?_
    refine wp_getI dX7_takeTop_16 fl_X7_83 i30 ?_
    refine wp_bipush (v := 8) dX7_takeTop_19 (by decide) ?_
    refine wp_icmp_ge (tgt := 32) dX7_takeTop_21 (by decide) (fun c31 => ?_) (fun c31 => ?_)
    · have hb := hb.1 c31
      refine wp_aload_n 0 dX7_takeTop_32 rfl rfl ?_
      refine wp_iconst (v := 5) dX7_takeTop_33 (by decide) ?_
      refine wp_callV (as := [.int 5]) dX7_takeTop_34 cb_X7_faulty lk_X7_90 im_X7_faulty se_X7_faulty rfl (Nat.le_of_ble_eq_true rfl) ⟨by decide, by decide⟩ ⟨Nat.le_refl _, Nat.le_refl _, Nat.le_refl _⟩ i1 rfl (by decide) hb (fun r0 h33 hb => ?_)
      obtain ⟨r34, rfl, hb⟩ := hb
      obtain ⟨q35, hb⟩ := hb
      exact wp_zret rfl dX7_takeTop_37 q35 ⟨_, rfl, hb⟩
    · have hb := hb.2 c31
      refine wp_aload_n 0 dX7_takeTop_24 rfl rfl ?_
      refine wp_iconst (v := 4) dX7_takeTop_25 (by decide) ?_
      refine wp_callV (as := [.int 4]) dX7_takeTop_26 cb_X7_awaits lk_X7_131 im_X7_awaits se_X7_awaits rfl (Nat.le_of_ble_eq_true rfl) ⟨by decide, by decide⟩ ⟨Nat.le_refl _, Nat.le_refl _, Nat.le_refl _⟩ i1 rfl (by decide) hb (fun r0 h37 hb => ?_)
      obtain ⟨r38, rfl, hb⟩ := hb
      refine wp_goto (tgt := 37) dX7_takeTop_29 (by decide) ?_
      obtain ⟨q39, hb⟩ := hb
      exact wp_zret rfl dX7_takeTop_37 q39 ⟨_, rfl, hb⟩
set_option maxRecDepth 100000 in
set_option maxHeartbeats 4000000 in
theorem s_X7_takeTop_86 {l : Launch} {g : AG} {h : AH} {x0 : Nat}  {Q : Int32 → AH → Prop} (hb : (Is 194 x0 6) ∧ ( (Is 194 (h.2.2 x0 1) 0) ∧ ( ((6 ≤ h.1 (h.2.2 x0 1) 2 → (C_X7_faulty l g h x0 5 (fun r45 h44 => ( (r45 = 0 ∨ r45 = 1) ∧ ( Q r45 h44))))) ∧ (¬ (6 ≤ h.1 (h.2.2 x0 1) 2) → (C_X7_awaits l g h x0 1 (fun r49 h48 => ( (r49 = 0 ∨ r49 = 1) ∧ ( Q r49 h48))))))))) : L_X7_takeTop_86 l g h x0  Q := by
  obtain ⟨i40, hb⟩ := hb
  refine wp_aload_n 0 dX7_takeTop_86 rfl rfl ?_
  obtain ⟨i41, hb⟩ := hb
  refine wp_getR dX7_takeTop_87 fl_X7_64 i40 (i41.ne (by decide)) ?_
  refine wp_getI dX7_takeTop_90 fl_X7_180 i41 ?_
  refine wp_bipush (v := 6) dX7_takeTop_93 (by decide) ?_
  refine wp_icmp_ge (tgt := 106) dX7_takeTop_95 (by decide) (fun c42 => ?_) (fun c42 => ?_)
  · have hb := hb.1 c42
    refine wp_aload_n 0 dX7_takeTop_106 rfl rfl ?_
    refine wp_iconst (v := 5) dX7_takeTop_107 (by decide) ?_
    refine wp_callV (as := [.int 5]) dX7_takeTop_108 cb_X7_faulty lk_X7_90 im_X7_faulty se_X7_faulty rfl (Nat.le_of_ble_eq_true rfl) ⟨by decide, by decide⟩ ⟨Nat.le_refl _, Nat.le_refl _, Nat.le_refl _⟩ i40 rfl (by decide) hb (fun r0 h44 hb => ?_)
    obtain ⟨r45, rfl, hb⟩ := hb
    obtain ⟨q46, hb⟩ := hb
    exact wp_zret rfl dX7_takeTop_111 q46 ⟨_, rfl, hb⟩
  · have hb := hb.2 c42
    refine wp_aload_n 0 dX7_takeTop_98 rfl rfl ?_
    refine wp_iconst (v := 1) dX7_takeTop_99 (by decide) ?_
    refine wp_callV (as := [.int 1]) dX7_takeTop_100 cb_X7_awaits lk_X7_131 im_X7_awaits se_X7_awaits rfl (Nat.le_of_ble_eq_true rfl) ⟨by decide, by decide⟩ ⟨Nat.le_refl _, Nat.le_refl _, Nat.le_refl _⟩ i40 rfl (by decide) hb (fun r0 h48 hb => ?_)
    obtain ⟨r49, rfl, hb⟩ := hb
    refine wp_goto (tgt := 111) dX7_takeTop_103 (by decide) ?_
    obtain ⟨q50, hb⟩ := hb
    exact wp_zret rfl dX7_takeTop_111 q50 ⟨_, rfl, hb⟩
theorem c_X7_takeTop {l : Launch} {g : AG} {h : AH} {x0 : Nat}  {Q : Int32 → AH → Prop} (hb : L_X7_takeTop_0 l g h x0  Q) : C_X7_takeTop l g h x0  Q := ax_met rfl rfl (Nat.le_of_ble_eq_true rfl) hb
def C_X0_varNamed (l : Launch) (g : AG) (h : AH) (x0 : Nat) (x1 : Int64)  (Q : Int32 → AH → Prop) : Prop := Ct l g mX0_varNamed 1 25 194 194 h [.ref x0, .long x1] (ax_QI Q)
def L_X0_varNamed_0 (l : Launch) (g : AG) (h : AH) (x0 : Nat) (x1 : Int64)  (Q : Int32 → AH → Prop) : Prop := Wp l g mX0_varNamed 1 25 194 194 194 0 [(0, .ref x0), (1, .long x1)] [] h (FM g 194 194 (ax_QI Q))
set_option maxRecDepth 100000 in
set_option maxHeartbeats 4000000 in
theorem s_X0_varNamed_0 {l : Launch} {g : AG} {h : AH} {x0 : Nat} {x1 : Int64}  {Q : Int32 → AH → Prop} (hb : (Is 194 x0 0) ∧ ( (Is 194 (h.2.2 x0 7) 21) ∧ ( C_X0_placeOf l g h x1 (h.2.2 x0 7) 0 (h.1 x0 2) (fun r5 h4 => ( Q r5 h4))))) : L_X0_varNamed_0 l g h x0 x1  Q := by
  refine wp_lload_n 1 dX0_varNamed_0 rfl rfl ?_
  obtain ⟨i1, hb⟩ := hb
  refine wp_aload_n 0 dX0_varNamed_1 rfl rfl ?_
  obtain ⟨i2, hb⟩ := hb
  refine wp_getR dX0_varNamed_2 fl_X0_34 i1 (i2.ne (by decide)) ?_
  refine wp_iconst (v := 0) dX0_varNamed_5 (by decide) ?_
  refine wp_aload_n 0 dX0_varNamed_6 rfl rfl ?_
  refine wp_getI dX0_varNamed_7 fl_X0_18 i1 ?_
  refine wp_callS (as := [.long x1, .ref (h.2.2 x0 7), .int 0, .int (h.1 x0 2)]) dX0_varNamed_10 cb_X0_placeOf lk_X0_94 st_X0_placeOf rfl (Nat.le_of_ble_eq_true rfl) ⟨by decide, by decide⟩ ⟨Nat.le_refl _, Nat.le_refl _, Nat.le_refl _⟩ hb (fun r0 h4 hb => ?_)
  obtain ⟨r5, rfl, hb⟩ := hb
  exact wp_iret rfl dX0_varNamed_13 ⟨_, rfl, hb⟩
theorem c_X0_varNamed {l : Launch} {g : AG} {h : AH} {x0 : Nat} {x1 : Int64}  {Q : Int32 → AH → Prop} (hb : L_X0_varNamed_0 l g h x0 x1  Q) : C_X0_varNamed l g h x0 x1  Q := ax_met rfl rfl (Nat.le_of_ble_eq_true rfl) hb
def C_X7_isNewName (l : Launch) (g : AG) (h : AH) (x0 : Nat) (x1 : Int32)  (Q : Int32 → AH → Prop) : Prop := Ct l g mX7_isNewName 1 21 194 194 h [.ref x0, .int x1] (ax_QI Q)
def L_X7_isNewName_0 (l : Launch) (g : AG) (h : AH) (x0 : Nat) (x1 : Int32)  (Q : Int32 → AH → Prop) : Prop := Wp l g mX7_isNewName 1 21 194 194 194 0 [(0, .ref x0), (1, .int x1)] [] h (FM g 194 194 (ax_QI Q))
set_option maxRecDepth 100000 in
set_option maxHeartbeats 4000000 in
theorem s_X7_isNewName_0 {l : Launch} {g : AG} {h : AH} {x0 : Nat} {x1 : Int32}  {Q : Int32 → AH → Prop} (hb : (Is 194 x0 6) ∧ ( (Is 194 (h.2.2 x0 0) 7) ∧ ( ((h.1 (h.2.2 x0 0) 3 = 1 → (((x1 = (-1) → (Q 1 h)) ∧ (¬ (x1 = (-1)) → (C_X7_faulty l g h x0 3 (fun r7 h6 => ( ((r7 = 0 → (Q 0 h6)) ∧ (¬ (r7 = 0) → (Q 1 h6)))))))))) ∧ (¬ (h.1 (h.2.2 x0 0) 3 = 1) → (C_X7_faulty l g h x0 1 (fun r11 h10 => ( (r11 = 0 ∨ r11 = 1) ∧ ( Q r11 h10))))))))) : L_X7_isNewName_0 l g h x0 x1  Q := by
  obtain ⟨i1, hb⟩ := hb
  refine wp_aload_n 0 dX7_isNewName_0 rfl rfl ?_
  obtain ⟨i2, hb⟩ := hb
  refine wp_getR dX7_isNewName_1 fl_X7_12 i1 (i2.ne (by decide)) ?_
  refine wp_getI dX7_isNewName_4 fl_X7_80 i2 ?_
  refine wp_iconst (v := 1) dX7_isNewName_7 (by decide) ?_
  refine wp_icmp_eq (tgt := 17) dX7_isNewName_8 (by decide) (fun c3 => ?_) (fun c3 => ?_)
  · have hb := hb.1 c3
    refine wp_iload_n 1 dX7_isNewName_17 rfl rfl ?_
    refine wp_iconst (v := (-1)) dX7_isNewName_18 (by decide) ?_
    refine wp_icmp_eq (tgt := 30) dX7_isNewName_19 (by decide) (fun c4 => ?_) (fun c4 => ?_)
    · have hb := hb.1 c4
      refine wp_iconst (v := 1) dX7_isNewName_30 (by decide) ?_
      refine wp_goto (tgt := 35) dX7_isNewName_31 (by decide) ?_
      exact wp_zret rfl dX7_isNewName_35 (Or.inr rfl) ⟨_, rfl, hb⟩
    · have hb := hb.2 c4
      refine wp_aload_n 0 dX7_isNewName_22 rfl rfl ?_
      refine wp_iconst (v := 3) dX7_isNewName_23 (by decide) ?_
      refine wp_callV (as := [.int 3]) dX7_isNewName_24 cb_X7_faulty lk_X7_90 im_X7_faulty se_X7_faulty rfl (Nat.le_of_ble_eq_true rfl) ⟨by decide, by decide⟩ ⟨Nat.le_refl _, Nat.le_refl _, Nat.le_refl _⟩ i1 rfl (by decide) hb (fun r0 h6 hb => ?_)
      obtain ⟨r7, rfl, hb⟩ := hb
      refine wp_if_eq (tgt := 34) dX7_isNewName_27 (by decide) (fun c8 => ?_) (fun c8 => ?_)
      · have hb := hb.1 c8
        refine wp_iconst (v := 0) dX7_isNewName_34 (by decide) ?_
        exact wp_zret rfl dX7_isNewName_35 (Or.inl rfl) ⟨_, rfl, hb⟩
      · have hb := hb.2 c8
        refine wp_iconst (v := 1) dX7_isNewName_30 (by decide) ?_
        refine wp_goto (tgt := 35) dX7_isNewName_31 (by decide) ?_
        exact wp_zret rfl dX7_isNewName_35 (Or.inr rfl) ⟨_, rfl, hb⟩
  · have hb := hb.2 c3
    refine wp_aload_n 0 dX7_isNewName_11 rfl rfl ?_
    refine wp_iconst (v := 1) dX7_isNewName_12 (by decide) ?_
    refine wp_callV (as := [.int 1]) dX7_isNewName_13 cb_X7_faulty lk_X7_90 im_X7_faulty se_X7_faulty rfl (Nat.le_of_ble_eq_true rfl) ⟨by decide, by decide⟩ ⟨Nat.le_refl _, Nat.le_refl _, Nat.le_refl _⟩ i1 rfl (by decide) hb (fun r0 h10 hb => ?_)
    obtain ⟨r11, rfl, hb⟩ := hb
    obtain ⟨q12, hb⟩ := hb
    exact wp_zret rfl dX7_isNewName_16 q12 ⟨_, rfl, hb⟩
theorem c_X7_isNewName {l : Launch} {g : AG} {h : AH} {x0 : Nat} {x1 : Int32}  {Q : Int32 → AH → Prop} (hb : L_X7_isNewName_0 l g h x0 x1  Q) : C_X7_isNewName l g h x0 x1  Q := ax_met rfl rfl (Nat.le_of_ble_eq_true rfl) hb
def C_X7_takeVarName (l : Launch) (g : AG) (h : AH) (x0 : Nat)  (Q : Int32 → AH → Prop) : Prop := Ct l g mX7_takeVarName 2 47 194 194 h [.ref x0] (ax_QI Q)
def L_X7_takeVarName_0 (l : Launch) (g : AG) (h : AH) (x0 : Nat)  (Q : Int32 → AH → Prop) : Prop := Wp l g mX7_takeVarName 2 47 194 194 194 0 [(0, .ref x0)] [] h (FM g 194 194 (ax_QI Q))
set_option maxRecDepth 100000 in
set_option maxHeartbeats 4000000 in
theorem s_X7_takeVarName_0 {l : Launch} {g : AG} {h : AH} {x0 : Nat}  {Q : Int32 → AH → Prop} (hb : (Is 194 x0 6) ∧ ( (Is 194 (h.2.2 x0 1) 0) ∧ ( (Is 194 (h.2.2 x0 0) 7) ∧ ( C_X0_varNamed l g h (h.2.2 x0 1) (h.2.1 (h.2.2 x0 0) 5) (fun r6 h5 => ( C_X7_isNewName l g h5 x0 r6 (fun r9 h8 => ( ((¬ r9 = 0 → ((Is 194 (h8.2.2 x0 0) 7) ∧ ( ∀ h12 : AH, h12 = ax_setL h8 x0 5 (h8.2.1 (h8.2.2 x0 0) 5) → ( C_X7_awaits l g h12 x0 2 (fun r16 h15 => ( (r16 = 0 ∨ r16 = 1) ∧ ( Q r16 h15))))))) ∧ (r9 = 0 → (Q 0 h8))))))))))) : L_X7_takeVarName_0 l g h x0  Q := by
  obtain ⟨i1, hb⟩ := hb
  refine wp_aload_n 0 dX7_takeVarName_0 rfl rfl ?_
  refine wp_aload_n 0 dX7_takeVarName_1 rfl rfl ?_
  obtain ⟨i2, hb⟩ := hb
  refine wp_getR dX7_takeVarName_2 fl_X7_64 i1 (i2.ne (by decide)) ?_
  refine wp_aload_n 0 dX7_takeVarName_5 rfl rfl ?_
  obtain ⟨i3, hb⟩ := hb
  refine wp_getR dX7_takeVarName_6 fl_X7_12 i1 (i3.ne (by decide)) ?_
  refine wp_getL dX7_takeVarName_9 fl_X7_168 i3 ?_
  refine wp_callVN (as := [.long (h.2.1 (h.2.2 x0 0) 5)]) dX7_takeVarName_12 cb_X0_varNamed lk_X7_171 im_X0_varNamed se_X0_varNamed rfl (Nat.le_of_ble_eq_true rfl) ⟨by decide, by decide⟩ ⟨Nat.le_refl _, Nat.le_refl _, Nat.le_refl _⟩ i2 rfl (by decide) hb (fun r0 h5 hb => ?_)
  obtain ⟨r6, rfl, hb⟩ := hb
  refine wp_callV (as := [.int r6]) dX7_takeVarName_15 cb_X7_isNewName lk_X7_183 im_X7_isNewName se_X7_isNewName rfl (Nat.le_of_ble_eq_true rfl) ⟨by decide, by decide⟩ ⟨Nat.le_refl _, Nat.le_refl _, Nat.le_refl _⟩ i1 rfl (by decide) hb (fun r0 h8 hb => ?_)
  obtain ⟨r9, rfl, hb⟩ := hb
  refine wp_if_ne (tgt := 23) dX7_takeVarName_18 (by decide) (fun c10 => ?_) (fun c10 => ?_)
  · have hb := hb.1 c10
    refine wp_aload_n 0 dX7_takeVarName_23 rfl rfl ?_
    refine wp_aload_n 0 dX7_takeVarName_24 rfl rfl ?_
    obtain ⟨i11, hb⟩ := hb
    refine wp_getR dX7_takeVarName_25 fl_X7_12 i1 (i11.ne (by decide)) ?_
    refine wp_getL dX7_takeVarName_28 fl_X7_168 i11 ?_
    refine wp_putL dX7_takeVarName_31 fl_X7_28 (Or.inl rfl) i1 ?_
    refine wp_topH (fun h12 e13 => ?_)
    have hb := hb h12 e13
    refine wp_aload_n 0 dX7_takeVarName_34 rfl rfl ?_
    refine wp_iconst (v := 2) dX7_takeVarName_35 (by decide) ?_
    refine wp_callV (as := [.int 2]) dX7_takeVarName_36 cb_X7_awaits lk_X7_131 im_X7_awaits se_X7_awaits rfl (Nat.le_of_ble_eq_true rfl) ⟨by decide, by decide⟩ ⟨Nat.le_refl _, Nat.le_refl _, Nat.le_refl _⟩ i1 rfl (by decide) hb (fun r0 h15 hb => ?_)
    obtain ⟨r16, rfl, hb⟩ := hb
    obtain ⟨q17, hb⟩ := hb
    exact wp_zret rfl dX7_takeVarName_39 q17 ⟨_, rfl, hb⟩
  · have hb := hb.2 c10
    refine wp_iconst (v := 0) dX7_takeVarName_21 (by decide) ?_
    exact wp_zret rfl dX7_takeVarName_22 (Or.inl rfl) ⟨_, rfl, hb⟩
theorem c_X7_takeVarName {l : Launch} {g : AG} {h : AH} {x0 : Nat}  {Q : Int32 → AH → Prop} (hb : L_X7_takeVarName_0 l g h x0  Q) : C_X7_takeVarName l g h x0  Q := ax_met rfl rfl (Nat.le_of_ble_eq_true rfl) hb
def C_X7_isNumber (l : Launch) (g : AG) (h : AH) (x0 : Nat) (x1 : Int32) (x2 : Int32)  (Q : Int32 → AH → Prop) : Prop := Ct l g mX7_isNumber 1 21 194 194 h [.ref x0, .int x1, .int x2] (ax_QI Q)
def L_X7_isNumber_0 (l : Launch) (g : AG) (h : AH) (x0 : Nat) (x1 : Int32) (x2 : Int32)  (Q : Int32 → AH → Prop) : Prop := Wp l g mX7_isNumber 1 21 194 194 194 0 [(0, .ref x0), (1, .int x1), (2, .int x2)] [] h (FM g 194 194 (ax_QI Q))
def L_X7_isNumber_39 (l : Launch) (g : AG) (h : AH) (x0 : Nat)  (Q : Int32 → AH → Prop) : Prop := Wp l g mX7_isNumber 1 21 194 194 194 39 [(0, .ref x0)] [] h (FM g 194 194 (ax_QI Q))
set_option maxRecDepth 100000 in
set_option maxHeartbeats 4000000 in
theorem s_X7_isNumber_0 {l : Launch} {g : AG} {h : AH} {x0 : Nat} {x1 : Int32} {x2 : Int32}  {Q : Int32 → AH → Prop} (hb : (Is 194 x0 6) ∧ ( (Is 194 (h.2.2 x0 0) 7) ∧ ( ((h.1 (h.2.2 x0 0) 3 = 2 → ((Is 194 (h.2.2 x0 0) 7) ∧ ( ((h.1 (h.2.2 x0 0) 6 < x1 → (L_X7_isNumber_39 l g h x0  Q)) ∧ (¬ (h.1 (h.2.2 x0 0) 6 < x1) → ((Is 194 (h.2.2 x0 0) 7) ∧ ( ((h.1 (h.2.2 x0 0) 6 ≤ x2 → (Q 1 h)) ∧ (¬ (h.1 (h.2.2 x0 0) 6 ≤ x2) → (L_X7_isNumber_39 l g h x0  Q)))))))))) ∧ (¬ (h.1 (h.2.2 x0 0) 3 = 2) → (C_X7_faulty l g h x0 1 (fun r10 h9 => ( (r10 = 0 ∨ r10 = 1) ∧ ( Q r10 h9))))))))) : L_X7_isNumber_0 l g h x0 x1 x2  Q := by
  obtain ⟨i1, hb⟩ := hb
  refine wp_aload_n 0 dX7_isNumber_0 rfl rfl ?_
  obtain ⟨i2, hb⟩ := hb
  refine wp_getR dX7_isNumber_1 fl_X7_12 i1 (i2.ne (by decide)) ?_
  refine wp_getI dX7_isNumber_4 fl_X7_80 i2 ?_
  refine wp_iconst (v := 2) dX7_isNumber_7 (by decide) ?_
  refine wp_icmp_eq (tgt := 17) dX7_isNumber_8 (by decide) (fun c3 => ?_) (fun c3 => ?_)
  · have hb := hb.1 c3
    refine wp_aload_n 0 dX7_isNumber_17 rfl rfl ?_
    obtain ⟨i4, hb⟩ := hb
    refine wp_getR dX7_isNumber_18 fl_X7_12 i1 (i4.ne (by decide)) ?_
    refine wp_getI dX7_isNumber_21 fl_X7_165 i4 ?_
    refine wp_iload_n 1 dX7_isNumber_24 rfl rfl ?_
    refine wp_icmp_lt (tgt := 39) dX7_isNumber_25 (by decide) (fun c5 => ?_) (fun c5 => ?_)
    · have hb := hb.1 c5
      exact wp_sub [0] rfl hb
    · have hb := hb.2 c5
      refine wp_aload_n 0 dX7_isNumber_28 rfl rfl ?_
      obtain ⟨i6, hb⟩ := hb
      refine wp_getR dX7_isNumber_29 fl_X7_12 i1 (i6.ne (by decide)) ?_
      refine wp_getI dX7_isNumber_32 fl_X7_165 i6 ?_
      refine wp_iload_n 2 dX7_isNumber_35 rfl rfl ?_
      refine wp_icmp_le (tgt := 47) dX7_isNumber_36 (by decide) (fun c7 => ?_) (fun c7 => ?_)
      · have hb := hb.1 c7
        refine wp_iconst (v := 1) dX7_isNumber_47 (by decide) ?_
        refine wp_goto (tgt := 52) dX7_isNumber_48 (by decide) ?_
        exact wp_zret rfl dX7_isNumber_52 (Or.inr rfl) ⟨_, rfl, hb⟩
      · have hb := hb.2 c7
        exact wp_sub [0] rfl hb
  · have hb := hb.2 c3
    refine wp_aload_n 0 dX7_isNumber_11 rfl rfl ?_
    refine wp_iconst (v := 1) dX7_isNumber_12 (by decide) ?_
    refine wp_callV (as := [.int 1]) dX7_isNumber_13 cb_X7_faulty lk_X7_90 im_X7_faulty se_X7_faulty rfl (Nat.le_of_ble_eq_true rfl) ⟨by decide, by decide⟩ ⟨Nat.le_refl _, Nat.le_refl _, Nat.le_refl _⟩ i1 rfl (by decide) hb (fun r0 h9 hb => ?_)
    obtain ⟨r10, rfl, hb⟩ := hb
    obtain ⟨q11, hb⟩ := hb
    exact wp_zret rfl dX7_isNumber_16 q11 ⟨_, rfl, hb⟩
set_option maxRecDepth 100000 in
set_option maxHeartbeats 4000000 in
theorem s_X7_isNumber_39 {l : Launch} {g : AG} {h : AH} {x0 : Nat}  {Q : Int32 → AH → Prop} (hb : (Is 194 x0 6) ∧ ( C_X7_faulty l g h x0 4 (fun r15 h14 => ( ((r15 = 0 → (Q 0 h14)) ∧ (¬ (r15 = 0) → (Q 1 h14))))))) : L_X7_isNumber_39 l g h x0  Q := by
  obtain ⟨i12, hb⟩ := hb
  refine wp_aload_n 0 dX7_isNumber_39 rfl rfl ?_
  refine wp_iconst (v := 4) dX7_isNumber_40 (by decide) ?_
  refine wp_callV (as := [.int 4]) dX7_isNumber_41 cb_X7_faulty lk_X7_90 im_X7_faulty se_X7_faulty rfl (Nat.le_of_ble_eq_true rfl) ⟨by decide, by decide⟩ ⟨Nat.le_refl _, Nat.le_refl _, Nat.le_refl _⟩ i12 rfl (by decide) hb (fun r0 h14 hb => ?_)
  obtain ⟨r15, rfl, hb⟩ := hb
  refine wp_if_eq (tgt := 51) dX7_isNumber_44 (by decide) (fun c16 => ?_) (fun c16 => ?_)
  · have hb := hb.1 c16
    refine wp_iconst (v := 0) dX7_isNumber_51 (by decide) ?_
    exact wp_zret rfl dX7_isNumber_52 (Or.inl rfl) ⟨_, rfl, hb⟩
  · have hb := hb.2 c16
    refine wp_iconst (v := 1) dX7_isNumber_47 (by decide) ?_
    refine wp_goto (tgt := 52) dX7_isNumber_48 (by decide) ?_
    exact wp_zret rfl dX7_isNumber_52 (Or.inr rfl) ⟨_, rfl, hb⟩
theorem c_X7_isNumber {l : Launch} {g : AG} {h : AH} {x0 : Nat} {x1 : Int32} {x2 : Int32}  {Q : Int32 → AH → Prop} (hb : L_X7_isNumber_0 l g h x0 x1 x2  Q) : C_X7_isNumber l g h x0 x1 x2  Q := ax_met rfl rfl (Nat.le_of_ble_eq_true rfl) hb
def C_X3_withValue (l : Launch) (g : AG) (h : AH) (x0 : Int64) (x2 : Int32) (x3 : Int32)  (Q : Int64 → AH → Prop) : Prop := Ct l g mX3_withValue 0 0 194 194 h [.long x0, .int x2, .int x3] (ax_QL Q)
def L_X3_withValue_0 (l : Launch) (g : AG) (h : AH) (x0 : Int64) (x2 : Int32) (x3 : Int32)  (Q : Int64 → AH → Prop) : Prop := Wp l g mX3_withValue 0 0 194 194 194 0 [(0, .long x0), (2, .int x2), (3, .int x3)] [] h (FM g 194 194 (ax_QL Q))
set_option maxRecDepth 100000 in
set_option maxHeartbeats 4000000 in
theorem s_X3_withValue_0 {l : Launch} {g : AG} {h : AH} {x0 : Int64} {x2 : Int32} {x3 : Int32}  {Q : Int64 → AH → Prop} (hb : ∀ v1 : Int64, v1 = ((x0 &&& ((jlshl 15 (4 * x2)) ^^^ (-1))) ||| (jlshl x3.toInt64 (4 * x2))) → ( Q v1 h)) : L_X3_withValue_0 l g h x0 x2 x3  Q := by
  refine wp_lload_n 0 dX3_withValue_0 rfl rfl ?_
  refine wp_ldc2 (v := 15) dX3_withValue_1 lk_X3_21 ?_
  refine wp_iconst (v := 4) dX3_withValue_4 (by decide) ?_
  refine wp_iload_n 1 dX3_withValue_5 rfl rfl ?_
  refine wp_imul dX3_withValue_6 ?_
  refine wp_lshl dX3_withValue_7 ?_
  refine wp_ldc2 (v := (-1)) dX3_withValue_8 lk_X3_23 ?_
  refine wp_lxor dX3_withValue_11 ?_
  refine wp_land dX3_withValue_12 ?_
  refine wp_iload_n 2 dX3_withValue_13 rfl rfl ?_
  refine wp_i2l dX3_withValue_14 ?_
  refine wp_iconst (v := 4) dX3_withValue_15 (by decide) ?_
  refine wp_iload_n 1 dX3_withValue_16 rfl rfl ?_
  refine wp_imul dX3_withValue_17 ?_
  refine wp_lshl dX3_withValue_18 ?_
  refine wp_lor dX3_withValue_19 ?_
  refine wp_topl (fun v1 e2 => ?_)
  have hb := hb v1 e2
  exact wp_lret rfl dX3_withValue_20 ⟨_, rfl, hb⟩
theorem c_X3_withValue {l : Launch} {g : AG} {h : AH} {x0 : Int64} {x2 : Int32} {x3 : Int32}  {Q : Int64 → AH → Prop} (hb : L_X3_withValue_0 l g h x0 x2 x3  Q) : C_X3_withValue l g h x0 x2 x3  Q := ax_met rfl rfl (Nat.le_of_ble_eq_true rfl) hb
def C_X0_addVar (l : Launch) (g : AG) (h : AH) (x0 : Nat) (x1 : Int64) (x3 : Int32) (x4 : Int32)  (Q : AH → Prop) : Prop := Ct l g mX0_addVar 1 23 194 194 h [.ref x0, .long x1, .int x3, .int x4] (ax_QV Q)
def L_X0_addVar_0 (l : Launch) (g : AG) (h : AH) (x0 : Nat) (x1 : Int64) (x3 : Int32) (x4 : Int32)  (Q : AH → Prop) : Prop := Wp l g mX0_addVar 1 23 194 194 194 0 [(0, .ref x0), (1, .long x1), (3, .int x3), (4, .int x4)] [] h (FM g 194 194 (ax_QV Q))
set_option maxRecDepth 100000 in
set_option maxHeartbeats 4000000 in
theorem s_X0_addVar_0 {l : Launch} {g : AG} {h : AH} {x0 : Nat} {x1 : Int64} {x3 : Int32} {x4 : Int32}  {Q : AH → Prop} (hb : (Is 194 x0 0) ∧ ( (Is 194 (h.2.2 x0 7) 21) ∧ ( (vp_in (h.1 x0 2) (ax_s (h.2.2 x0 7)).2) ∧ ( ∀ h4 : AH, h4 = ax_setL h (h.2.2 x0 7) (h.1 x0 2).toNatClampNeg x1 → ( (Is 194 (h4.2.2 x0 10) 20) ∧ ( (vp_in (h4.1 x0 2) (ax_s (h4.2.2 x0 10)).2) ∧ ( ∀ h8 : AH, h8 = ax_setI h4 (h4.2.2 x0 10) (h4.1 x0 2).toNatClampNeg x3 → ( ((x4 = 0 → (∀ h11 : AH, h11 = ax_setI h8 x0 2 ((h8.1 x0 2) + 1) → ( Q h11))) ∧ (¬ (x4 = 0) → (∀ h13 : AH, h13 = ax_setI h8 x0 3 ((h8.1 x0 3) + 1) → ( C_X3_withValue l g h13 (h13.2.1 x0 6) (h13.1 x0 2) 15 (fun r17 h16 => ( ∀ h18 : AH, h18 = ax_setL h16 x0 6 r17 → ( ∀ h20 : AH, h20 = ax_setI h18 x0 2 ((h18.1 x0 2) + 1) → ( Q h20)))))))))))))))) : L_X0_addVar_0 l g h x0 x1 x3 x4  Q := by
  obtain ⟨i1, hb⟩ := hb
  refine wp_aload_n 0 dX0_addVar_0 rfl rfl ?_
  obtain ⟨i2, hb⟩ := hb
  refine wp_getR dX0_addVar_1 fl_X0_34 i1 (i2.ne (by decide)) ?_
  refine wp_aload_n 0 dX0_addVar_4 rfl rfl ?_
  refine wp_getI dX0_addVar_5 fl_X0_18 i1 ?_
  refine wp_lload_n 1 dX0_addVar_8 rfl rfl ?_
  obtain ⟨b3, hb⟩ := hb
  refine wp_lastore dX0_addVar_9 i2 b3 ?_
  refine wp_topH (fun h4 e5 => ?_)
  have hb := hb h4 e5
  refine wp_aload_n 0 dX0_addVar_10 rfl rfl ?_
  obtain ⟨i6, hb⟩ := hb
  refine wp_getR dX0_addVar_11 fl_X0_44 i1 (i6.ne (by decide)) ?_
  refine wp_aload_n 0 dX0_addVar_14 rfl rfl ?_
  refine wp_getI dX0_addVar_15 fl_X0_18 i1 ?_
  refine wp_iload_n 2 dX0_addVar_18 rfl rfl ?_
  obtain ⟨b7, hb⟩ := hb
  refine wp_iastore dX0_addVar_19 i6 b7 ?_
  refine wp_topH (fun h8 e9 => ?_)
  have hb := hb h8 e9
  refine wp_iload 3 dX0_addVar_20 rfl ?_
  refine wp_if_eq (tgt := 52) dX0_addVar_22 (by decide) (fun c10 => ?_) (fun c10 => ?_)
  · have hb := hb.1 c10
    refine wp_aload_n 0 dX0_addVar_52 rfl rfl ?_
    refine wp_dup dX0_addVar_53 rfl ?_
    refine wp_getI dX0_addVar_54 fl_X0_18 i1 ?_
    refine wp_iconst (v := 1) dX0_addVar_57 (by decide) ?_
    refine wp_iadd dX0_addVar_58 ?_
    refine wp_putI dX0_addVar_59 fl_X0_18 (Or.inl rfl) i1 ?_
    refine wp_topH (fun h11 e12 => ?_)
    have hb := hb h11 e12
    exact wp_vret rfl dX0_addVar_62 ⟨rfl, hb⟩
  · have hb := hb.2 c10
    refine wp_aload_n 0 dX0_addVar_25 rfl rfl ?_
    refine wp_dup dX0_addVar_26 rfl ?_
    refine wp_getI dX0_addVar_27 fl_X0_21 i1 ?_
    refine wp_iconst (v := 1) dX0_addVar_30 (by decide) ?_
    refine wp_iadd dX0_addVar_31 ?_
    refine wp_putI dX0_addVar_32 fl_X0_21 (Or.inl rfl) i1 ?_
    refine wp_topH (fun h13 e14 => ?_)
    have hb := hb h13 e14
    refine wp_aload_n 0 dX0_addVar_35 rfl rfl ?_
    refine wp_aload_n 0 dX0_addVar_36 rfl rfl ?_
    refine wp_getL dX0_addVar_37 fl_X0_30 i1 ?_
    refine wp_aload_n 0 dX0_addVar_40 rfl rfl ?_
    refine wp_getI dX0_addVar_41 fl_X0_18 i1 ?_
    refine wp_bipush (v := 15) dX0_addVar_44 (by decide) ?_
    refine wp_callSN (as := [.long (h13.2.1 x0 6), .int (h13.1 x0 2), .int 15]) dX0_addVar_46 cb_X3_withValue lk_X0_80 st_X3_withValue rfl (Nat.le_of_ble_eq_true rfl) ⟨by decide, by decide⟩ ⟨Nat.le_refl _, Nat.le_refl _, Nat.le_refl _⟩ hb (fun r0 h16 hb => ?_)
    obtain ⟨r17, rfl, hb⟩ := hb
    refine wp_putL dX0_addVar_49 fl_X0_30 (Or.inl rfl) i1 ?_
    refine wp_topH (fun h18 e19 => ?_)
    have hb := hb h18 e19
    refine wp_aload_n 0 dX0_addVar_52 rfl rfl ?_
    refine wp_dup dX0_addVar_53 rfl ?_
    refine wp_getI dX0_addVar_54 fl_X0_18 i1 ?_
    refine wp_iconst (v := 1) dX0_addVar_57 (by decide) ?_
    refine wp_iadd dX0_addVar_58 ?_
    refine wp_putI dX0_addVar_59 fl_X0_18 (Or.inl rfl) i1 ?_
    refine wp_topH (fun h20 e21 => ?_)
    have hb := hb h20 e21
    exact wp_vret rfl dX0_addVar_62 ⟨rfl, hb⟩
theorem c_X0_addVar {l : Launch} {g : AG} {h : AH} {x0 : Nat} {x1 : Int64} {x3 : Int32} {x4 : Int32}  {Q : AH → Prop} (hb : L_X0_addVar_0 l g h x0 x1 x3 x4  Q) : C_X0_addVar l g h x0 x1 x3 x4  Q := ax_met rfl rfl (Nat.le_of_ble_eq_true rfl) hb
def C_X7_takeVarMost (l : Launch) (g : AG) (h : AH) (x0 : Nat)  (Q : Int32 → AH → Prop) : Prop := Ct l g mX7_takeVarMost 2 47 194 194 h [.ref x0] (ax_QI Q)
def L_X7_takeVarMost_0 (l : Launch) (g : AG) (h : AH) (x0 : Nat)  (Q : Int32 → AH → Prop) : Prop := Wp l g mX7_takeVarMost 2 47 194 194 194 0 [(0, .ref x0)] [] h (FM g 194 194 (ax_QI Q))
set_option maxRecDepth 100000 in
set_option maxHeartbeats 4000000 in
theorem s_X7_takeVarMost_0 {l : Launch} {g : AG} {h : AH} {x0 : Nat}  {Q : Int32 → AH → Prop} (hb : (Is 194 x0 6) ∧ ( C_X7_isNumber l g h x0 1 9 (fun r4 h3 => ( ((¬ r4 = 0 → ((Is 194 (h3.2.2 x0 1) 0) ∧ ( (Is 194 (h3.2.2 x0 0) 7) ∧ ( C_X0_addVar l g h3 (h3.2.2 x0 1) (h3.2.1 x0 5) (h3.1 (h3.2.2 x0 0) 6) (h3.1 x0 6) (fun h9 => ( C_X7_awaits l g h9 x0 3 (fun r12 h11 => ( (r12 = 0 ∨ r12 = 1) ∧ ( Q r12 h11))))))))) ∧ (r4 = 0 → (Q 0 h3))))))) : L_X7_takeVarMost_0 l g h x0  Q := by
  obtain ⟨i1, hb⟩ := hb
  refine wp_aload_n 0 dX7_takeVarMost_0 rfl rfl ?_
  refine wp_iconst (v := 1) dX7_takeVarMost_1 (by decide) ?_
  refine wp_bipush (v := 9) dX7_takeVarMost_2 (by decide) ?_
  refine wp_callV (as := [.int 1, .int 9]) dX7_takeVarMost_4 cb_X7_isNumber lk_X7_186 im_X7_isNumber se_X7_isNumber rfl (Nat.le_of_ble_eq_true rfl) ⟨by decide, by decide⟩ ⟨Nat.le_refl _, Nat.le_refl _, Nat.le_refl _⟩ i1 rfl (by decide) hb (fun r0 h3 hb => ?_)
  obtain ⟨r4, rfl, hb⟩ := hb
  refine wp_if_ne (tgt := 12) dX7_takeVarMost_7 (by decide) (fun c5 => ?_) (fun c5 => ?_)
  · have hb := hb.1 c5
    refine wp_aload_n 0 dX7_takeVarMost_12 rfl rfl ?_
    obtain ⟨i6, hb⟩ := hb
    refine wp_getR dX7_takeVarMost_13 fl_X7_64 i1 (i6.ne (by decide)) ?_
    refine wp_aload_n 0 dX7_takeVarMost_16 rfl rfl ?_
    refine wp_getL dX7_takeVarMost_17 fl_X7_28 i1 ?_
    refine wp_aload_n 0 dX7_takeVarMost_20 rfl rfl ?_
    obtain ⟨i7, hb⟩ := hb
    refine wp_getR dX7_takeVarMost_21 fl_X7_12 i1 (i7.ne (by decide)) ?_
    refine wp_getI dX7_takeVarMost_24 fl_X7_165 i7 ?_
    refine wp_aload_n 0 dX7_takeVarMost_27 rfl rfl ?_
    refine wp_getZ dX7_takeVarMost_28 fl_X7_32 i1 ?_
    refine wp_callVN (as := [.long (h3.2.1 x0 5), .int (h3.1 (h3.2.2 x0 0) 6), .int (h3.1 x0 6)]) dX7_takeVarMost_31 cb_X0_addVar lk_X7_189 im_X0_addVar se_X0_addVar rfl (Nat.le_of_ble_eq_true rfl) ⟨by decide, by decide⟩ ⟨Nat.le_refl _, Nat.le_refl _, Nat.le_refl _⟩ i6 rfl (by decide) hb (fun r0 h9 hb => ?_)
    obtain ⟨rfl, hb⟩ := hb
    refine wp_aload_n 0 dX7_takeVarMost_34 rfl rfl ?_
    refine wp_iconst (v := 3) dX7_takeVarMost_35 (by decide) ?_
    refine wp_callV (as := [.int 3]) dX7_takeVarMost_36 cb_X7_awaits lk_X7_131 im_X7_awaits se_X7_awaits rfl (Nat.le_of_ble_eq_true rfl) ⟨by decide, by decide⟩ ⟨Nat.le_refl _, Nat.le_refl _, Nat.le_refl _⟩ i1 rfl (by decide) hb (fun r0 h11 hb => ?_)
    obtain ⟨r12, rfl, hb⟩ := hb
    obtain ⟨q13, hb⟩ := hb
    exact wp_zret rfl dX7_takeVarMost_39 q13 ⟨_, rfl, hb⟩
  · have hb := hb.2 c5
    refine wp_iconst (v := 0) dX7_takeVarMost_10 (by decide) ?_
    exact wp_zret rfl dX7_takeVarMost_11 (Or.inl rfl) ⟨_, rfl, hb⟩
theorem c_X7_takeVarMost {l : Launch} {g : AG} {h : AH} {x0 : Nat}  {Q : Int32 → AH → Prop} (hb : L_X7_takeVarMost_0 l g h x0  Q) : C_X7_takeVarMost l g h x0  Q := ax_met rfl rfl (Nat.le_of_ble_eq_true rfl) hb
def C_X7_takeSign (l : Launch) (g : AG) (h : AH) (x0 : Nat) (x1 : Int32) (x2 : Int32)  (Q : Int32 → AH → Prop) : Prop := Ct l g mX7_takeSign 1 21 194 194 h [.ref x0, .int x1, .int x2] (ax_QI Q)
def L_X7_takeSign_0 (l : Launch) (g : AG) (h : AH) (x0 : Nat) (x1 : Int32) (x2 : Int32)  (Q : Int32 → AH → Prop) : Prop := Wp l g mX7_takeSign 1 21 194 194 194 0 [(0, .ref x0), (1, .int x1), (2, .int x2)] [] h (FM g 194 194 (ax_QI Q))
set_option maxRecDepth 100000 in
set_option maxHeartbeats 4000000 in
theorem s_X7_takeSign_0 {l : Launch} {g : AG} {h : AH} {x0 : Nat} {x1 : Int32} {x2 : Int32}  {Q : Int32 → AH → Prop} (hb : (Is 194 x0 6) ∧ ( (Is 194 (h.2.2 x0 0) 7) ∧ ( ((¬ h.1 (h.2.2 x0 0) 3 = x1 → (C_X7_faulty l g h x0 1 (fun r6 h5 => ( (r6 = 0 ∨ r6 = 1) ∧ ( Q r6 h5))))) ∧ (h.1 (h.2.2 x0 0) 3 = x1 → (C_X7_awaits l g h x0 x2 (fun r10 h9 => ( (r10 = 0 ∨ r10 = 1) ∧ ( Q r10 h9))))))))) : L_X7_takeSign_0 l g h x0 x1 x2  Q := by
  obtain ⟨i1, hb⟩ := hb
  refine wp_aload_n 0 dX7_takeSign_0 rfl rfl ?_
  obtain ⟨i2, hb⟩ := hb
  refine wp_getR dX7_takeSign_1 fl_X7_12 i1 (i2.ne (by decide)) ?_
  refine wp_getI dX7_takeSign_4 fl_X7_80 i2 ?_
  refine wp_iload_n 1 dX7_takeSign_7 rfl rfl ?_
  refine wp_icmp_ne (tgt := 19) dX7_takeSign_8 (by decide) (fun c3 => ?_) (fun c3 => ?_)
  · have hb := hb.1 c3
    refine wp_aload_n 0 dX7_takeSign_19 rfl rfl ?_
    refine wp_iconst (v := 1) dX7_takeSign_20 (by decide) ?_
    refine wp_callV (as := [.int 1]) dX7_takeSign_21 cb_X7_faulty lk_X7_90 im_X7_faulty se_X7_faulty rfl (Nat.le_of_ble_eq_true rfl) ⟨by decide, by decide⟩ ⟨Nat.le_refl _, Nat.le_refl _, Nat.le_refl _⟩ i1 rfl (by decide) hb (fun r0 h5 hb => ?_)
    obtain ⟨r6, rfl, hb⟩ := hb
    obtain ⟨q7, hb⟩ := hb
    exact wp_zret rfl dX7_takeSign_24 q7 ⟨_, rfl, hb⟩
  · have hb := hb.2 c3
    refine wp_aload_n 0 dX7_takeSign_11 rfl rfl ?_
    refine wp_iload_n 2 dX7_takeSign_12 rfl rfl ?_
    refine wp_callV (as := [.int x2]) dX7_takeSign_13 cb_X7_awaits lk_X7_131 im_X7_awaits se_X7_awaits rfl (Nat.le_of_ble_eq_true rfl) ⟨by decide, by decide⟩ ⟨Nat.le_refl _, Nat.le_refl _, Nat.le_refl _⟩ i1 rfl (by decide) hb (fun r0 h9 hb => ?_)
    obtain ⟨r10, rfl, hb⟩ := hb
    refine wp_goto (tgt := 24) dX7_takeSign_16 (by decide) ?_
    obtain ⟨q11, hb⟩ := hb
    exact wp_zret rfl dX7_takeSign_24 q11 ⟨_, rfl, hb⟩
theorem c_X7_takeSign {l : Launch} {g : AG} {h : AH} {x0 : Nat} {x1 : Int32} {x2 : Int32}  {Q : Int32 → AH → Prop} (hb : L_X7_takeSign_0 l g h x0 x1 x2  Q) : C_X7_takeSign l g h x0 x1 x2  Q := ax_met rfl rfl (Nat.le_of_ble_eq_true rfl) hb
def C_X5_ofTimer (l : Launch) (g : AG) (h : AH) (x0 : Int32)  (Q : Int32 → AH → Prop) : Prop := Ct l g mX5_ofTimer 0 0 194 194 h [.int x0] (ax_QI Q)
def L_X5_ofTimer_0 (l : Launch) (g : AG) (h : AH) (x0 : Int32)  (Q : Int32 → AH → Prop) : Prop := Wp l g mX5_ofTimer 0 0 194 194 194 0 [(0, .int x0)] [] h (FM g 194 194 (ax_QI Q))
set_option maxRecDepth 100000 in
set_option maxHeartbeats 4000000 in
theorem s_X5_ofTimer_0 {l : Launch} {g : AG} {h : AH} {x0 : Int32}  {Q : Int32 → AH → Prop} (hb : Q (24 + x0) h) : L_X5_ofTimer_0 l g h x0  Q := by
  refine wp_bipush (v := 24) dX5_ofTimer_0 (by decide) ?_
  refine wp_iload_n 0 dX5_ofTimer_2 rfl rfl ?_
  refine wp_iadd dX5_ofTimer_3 ?_
  exact wp_iret rfl dX5_ofTimer_4 ⟨_, rfl, hb⟩
theorem c_X5_ofTimer {l : Launch} {g : AG} {h : AH} {x0 : Int32}  {Q : Int32 → AH → Prop} (hb : L_X5_ofTimer_0 l g h x0  Q) : C_X5_ofTimer l g h x0  Q := ax_met rfl rfl (Nat.le_of_ble_eq_true rfl) hb
def C_X0_addWindow (l : Launch) (g : AG) (h : AH) (x0 : Nat) (x1 : Int64)  (Q : AH → Prop) : Prop := Ct l g mX0_addWindow 1 20 194 194 h [.ref x0, .long x1] (ax_QV Q)
def L_X0_addWindow_0 (l : Launch) (g : AG) (h : AH) (x0 : Nat) (x1 : Int64)  (Q : AH → Prop) : Prop := Wp l g mX0_addWindow 1 20 194 194 194 0 [(0, .ref x0), (1, .long x1)] [] h (FM g 194 194 (ax_QV Q))
set_option maxRecDepth 100000 in
set_option maxHeartbeats 4000000 in
theorem s_X0_addWindow_0 {l : Launch} {g : AG} {h : AH} {x0 : Nat} {x1 : Int64}  {Q : AH → Prop} (hb : (Is 194 x0 0) ∧ ( (Is 194 (h.2.2 x0 8) 21) ∧ ( (vp_in (h.1 x0 0) (ax_s (h.2.2 x0 8)).2) ∧ ( ∀ h4 : AH, h4 = ax_setL h (h.2.2 x0 8) (h.1 x0 0).toNatClampNeg x1 → ( (Is 194 (h4.2.2 x0 11) 20) ∧ ( (vp_in (h4.1 x0 0) (ax_s (h4.2.2 x0 11)).2) ∧ ( ∀ h8 : AH, h8 = ax_setI h4 (h4.2.2 x0 11) (h4.1 x0 0).toNatClampNeg 0 → ( (Is 194 (h8.2.2 x0 13) 20) ∧ ( (vp_in (h8.1 x0 0) (ax_s (h8.2.2 x0 13)).2) ∧ ( ∀ h12 : AH, h12 = ax_setI h8 (h8.2.2 x0 13) (h8.1 x0 0).toNatClampNeg 0 → ( (Is 194 (h12.2.2 x0 18) 4) ∧ ( (Is 194 (h12.2.2 (h12.2.2 x0 18) 0) 20) ∧ ( C_X5_ofTimer l g h12 (h12.1 x0 0) (fun r18 h17 => ( (vp_in r18 (ax_s (h12.2.2 (h12.2.2 x0 18) 0)).2) ∧ ( ∀ h20 : AH, h20 = ax_setI h17 (h12.2.2 (h12.2.2 x0 18) 0) r18.toNatClampNeg 0 → ( (Is 194 (h20.2.2 x0 14) 20) ∧ ( (vp_in (h20.1 x0 0) (ax_s (h20.2.2 x0 14)).2) ∧ ( ∀ h24 : AH, h24 = ax_setI h20 (h20.2.2 x0 14) (h20.1 x0 0).toNatClampNeg (h20.1 x0 1) → ( (Is 194 (h24.2.2 x0 15) 20) ∧ ( (vp_in (h24.1 x0 0) (ax_s (h24.2.2 x0 15)).2) ∧ ( ∀ h28 : AH, h28 = ax_setI h24 (h24.2.2 x0 15) (h24.1 x0 0).toNatClampNeg (h24.1 x0 1) → ( ∀ h30 : AH, h30 = ax_setI h28 x0 0 ((h28.1 x0 0) + 1) → ( Q h30)))))))))))))))))))))))) : L_X0_addWindow_0 l g h x0 x1  Q := by
  obtain ⟨i1, hb⟩ := hb
  refine wp_aload_n 0 dX0_addWindow_0 rfl rfl ?_
  obtain ⟨i2, hb⟩ := hb
  refine wp_getR dX0_addWindow_1 fl_X0_38 i1 (i2.ne (by decide)) ?_
  refine wp_aload_n 0 dX0_addWindow_4 rfl rfl ?_
  refine wp_getI dX0_addWindow_5 fl_X0_9 i1 ?_
  refine wp_lload_n 1 dX0_addWindow_8 rfl rfl ?_
  obtain ⟨b3, hb⟩ := hb
  refine wp_lastore dX0_addWindow_9 i2 b3 ?_
  refine wp_topH (fun h4 e5 => ?_)
  have hb := hb h4 e5
  refine wp_aload_n 0 dX0_addWindow_10 rfl rfl ?_
  obtain ⟨i6, hb⟩ := hb
  refine wp_getR dX0_addWindow_11 fl_X0_48 i1 (i6.ne (by decide)) ?_
  refine wp_aload_n 0 dX0_addWindow_14 rfl rfl ?_
  refine wp_getI dX0_addWindow_15 fl_X0_9 i1 ?_
  refine wp_iconst (v := 0) dX0_addWindow_18 (by decide) ?_
  obtain ⟨b7, hb⟩ := hb
  refine wp_iastore dX0_addWindow_19 i6 b7 ?_
  refine wp_topH (fun h8 e9 => ?_)
  have hb := hb h8 e9
  refine wp_aload_n 0 dX0_addWindow_20 rfl rfl ?_
  obtain ⟨i10, hb⟩ := hb
  refine wp_getR dX0_addWindow_21 fl_X0_54 i1 (i10.ne (by decide)) ?_
  refine wp_aload_n 0 dX0_addWindow_24 rfl rfl ?_
  refine wp_getI dX0_addWindow_25 fl_X0_9 i1 ?_
  refine wp_iconst (v := 0) dX0_addWindow_28 (by decide) ?_
  obtain ⟨b11, hb⟩ := hb
  refine wp_iastore dX0_addWindow_29 i10 b11 ?_
  refine wp_topH (fun h12 e13 => ?_)
  have hb := hb h12 e13
  refine wp_aload_n 0 dX0_addWindow_30 rfl rfl ?_
  obtain ⟨i14, hb⟩ := hb
  refine wp_getR dX0_addWindow_31 fl_X0_76 i1 (i14.ne (by decide)) ?_
  obtain ⟨i15, hb⟩ := hb
  refine wp_getR dX0_addWindow_34 fl_X0_86 i14 (i15.ne (by decide)) ?_
  refine wp_aload_n 0 dX0_addWindow_37 rfl rfl ?_
  refine wp_getI dX0_addWindow_38 fl_X0_9 i1 ?_
  refine wp_callSN (as := [.int (h12.1 x0 0)]) dX0_addWindow_41 cb_X5_ofTimer lk_X0_89 st_X5_ofTimer rfl (Nat.le_of_ble_eq_true rfl) ⟨by decide, by decide⟩ ⟨Nat.le_refl _, Nat.le_refl _, Nat.le_refl _⟩ hb (fun r0 h17 hb => ?_)
  obtain ⟨r18, rfl, hb⟩ := hb
  refine wp_iconst (v := 0) dX0_addWindow_44 (by decide) ?_
  obtain ⟨b19, hb⟩ := hb
  refine wp_iastore dX0_addWindow_45 i15 b19 ?_
  refine wp_topH (fun h20 e21 => ?_)
  have hb := hb h20 e21
  refine wp_aload_n 0 dX0_addWindow_46 rfl rfl ?_
  obtain ⟨i22, hb⟩ := hb
  refine wp_getR dX0_addWindow_47 fl_X0_57 i1 (i22.ne (by decide)) ?_
  refine wp_aload_n 0 dX0_addWindow_50 rfl rfl ?_
  refine wp_getI dX0_addWindow_51 fl_X0_9 i1 ?_
  refine wp_aload_n 0 dX0_addWindow_54 rfl rfl ?_
  refine wp_getI dX0_addWindow_55 fl_X0_15 i1 ?_
  obtain ⟨b23, hb⟩ := hb
  refine wp_iastore dX0_addWindow_58 i22 b23 ?_
  refine wp_topH (fun h24 e25 => ?_)
  have hb := hb h24 e25
  refine wp_aload_n 0 dX0_addWindow_59 rfl rfl ?_
  obtain ⟨i26, hb⟩ := hb
  refine wp_getR dX0_addWindow_60 fl_X0_60 i1 (i26.ne (by decide)) ?_
  refine wp_aload_n 0 dX0_addWindow_63 rfl rfl ?_
  refine wp_getI dX0_addWindow_64 fl_X0_9 i1 ?_
  refine wp_aload_n 0 dX0_addWindow_67 rfl rfl ?_
  refine wp_getI dX0_addWindow_68 fl_X0_15 i1 ?_
  obtain ⟨b27, hb⟩ := hb
  refine wp_iastore dX0_addWindow_71 i26 b27 ?_
  refine wp_topH (fun h28 e29 => ?_)
  have hb := hb h28 e29
  refine wp_aload_n 0 dX0_addWindow_72 rfl rfl ?_
  refine wp_dup dX0_addWindow_73 rfl ?_
  refine wp_getI dX0_addWindow_74 fl_X0_9 i1 ?_
  refine wp_iconst (v := 1) dX0_addWindow_77 (by decide) ?_
  refine wp_iadd dX0_addWindow_78 ?_
  refine wp_putI dX0_addWindow_79 fl_X0_9 (Or.inl rfl) i1 ?_
  refine wp_topH (fun h30 e31 => ?_)
  have hb := hb h30 e31
  exact wp_vret rfl dX0_addWindow_82 ⟨rfl, hb⟩
theorem c_X0_addWindow {l : Launch} {g : AG} {h : AH} {x0 : Nat} {x1 : Int64}  {Q : AH → Prop} (hb : L_X0_addWindow_0 l g h x0 x1  Q) : C_X0_addWindow l g h x0 x1  Q := ax_met rfl rfl (Nat.le_of_ble_eq_true rfl) hb
def C_X7_takeWindowName (l : Launch) (g : AG) (h : AH) (x0 : Nat)  (Q : Int32 → AH → Prop) : Prop := Ct l g mX7_takeWindowName 2 47 194 194 h [.ref x0] (ax_QI Q)
def L_X7_takeWindowName_0 (l : Launch) (g : AG) (h : AH) (x0 : Nat)  (Q : Int32 → AH → Prop) : Prop := Wp l g mX7_takeWindowName 2 47 194 194 194 0 [(0, .ref x0)] [] h (FM g 194 194 (ax_QI Q))
set_option maxRecDepth 100000 in
set_option maxHeartbeats 4000000 in
theorem s_X7_takeWindowName_0 {l : Launch} {g : AG} {h : AH} {x0 : Nat}  {Q : Int32 → AH → Prop} (hb : (Is 194 x0 6) ∧ ( (Is 194 (h.2.2 x0 1) 0) ∧ ( (Is 194 (h.2.2 x0 0) 7) ∧ ( C_X0_windowNamed l g h (h.2.2 x0 1) (h.2.1 (h.2.2 x0 0) 5) (fun r6 h5 => ( C_X7_isNewName l g h5 x0 r6 (fun r9 h8 => ( ((¬ r9 = 0 → ((Is 194 (h8.2.2 x0 1) 0) ∧ ( (Is 194 (h8.2.2 x0 0) 7) ∧ ( C_X0_addWindow l g h8 (h8.2.2 x0 1) (h8.2.1 (h8.2.2 x0 0) 5) (fun h14 => ( C_X7_awaits l g h14 x0 5 (fun r17 h16 => ( (r17 = 0 ∨ r17 = 1) ∧ ( Q r17 h16))))))))) ∧ (r9 = 0 → (Q 0 h8))))))))))) : L_X7_takeWindowName_0 l g h x0  Q := by
  obtain ⟨i1, hb⟩ := hb
  refine wp_aload_n 0 dX7_takeWindowName_0 rfl rfl ?_
  refine wp_aload_n 0 dX7_takeWindowName_1 rfl rfl ?_
  obtain ⟨i2, hb⟩ := hb
  refine wp_getR dX7_takeWindowName_2 fl_X7_64 i1 (i2.ne (by decide)) ?_
  refine wp_aload_n 0 dX7_takeWindowName_5 rfl rfl ?_
  obtain ⟨i3, hb⟩ := hb
  refine wp_getR dX7_takeWindowName_6 fl_X7_12 i1 (i3.ne (by decide)) ?_
  refine wp_getL dX7_takeWindowName_9 fl_X7_168 i3 ?_
  refine wp_callVN (as := [.long (h.2.1 (h.2.2 x0 0) 5)]) dX7_takeWindowName_12 cb_X0_windowNamed lk_X7_193 im_X0_windowNamed se_X0_windowNamed rfl (Nat.le_of_ble_eq_true rfl) ⟨by decide, by decide⟩ ⟨Nat.le_refl _, Nat.le_refl _, Nat.le_refl _⟩ i2 rfl (by decide) hb (fun r0 h5 hb => ?_)
  obtain ⟨r6, rfl, hb⟩ := hb
  refine wp_callV (as := [.int r6]) dX7_takeWindowName_15 cb_X7_isNewName lk_X7_183 im_X7_isNewName se_X7_isNewName rfl (Nat.le_of_ble_eq_true rfl) ⟨by decide, by decide⟩ ⟨Nat.le_refl _, Nat.le_refl _, Nat.le_refl _⟩ i1 rfl (by decide) hb (fun r0 h8 hb => ?_)
  obtain ⟨r9, rfl, hb⟩ := hb
  refine wp_if_ne (tgt := 23) dX7_takeWindowName_18 (by decide) (fun c10 => ?_) (fun c10 => ?_)
  · have hb := hb.1 c10
    refine wp_aload_n 0 dX7_takeWindowName_23 rfl rfl ?_
    obtain ⟨i11, hb⟩ := hb
    refine wp_getR dX7_takeWindowName_24 fl_X7_64 i1 (i11.ne (by decide)) ?_
    refine wp_aload_n 0 dX7_takeWindowName_27 rfl rfl ?_
    obtain ⟨i12, hb⟩ := hb
    refine wp_getR dX7_takeWindowName_28 fl_X7_12 i1 (i12.ne (by decide)) ?_
    refine wp_getL dX7_takeWindowName_31 fl_X7_168 i12 ?_
    refine wp_callVN (as := [.long (h8.2.1 (h8.2.2 x0 0) 5)]) dX7_takeWindowName_34 cb_X0_addWindow lk_X7_196 im_X0_addWindow se_X0_addWindow rfl (Nat.le_of_ble_eq_true rfl) ⟨by decide, by decide⟩ ⟨Nat.le_refl _, Nat.le_refl _, Nat.le_refl _⟩ i11 rfl (by decide) hb (fun r0 h14 hb => ?_)
    obtain ⟨rfl, hb⟩ := hb
    refine wp_aload_n 0 dX7_takeWindowName_37 rfl rfl ?_
    refine wp_iconst (v := 5) dX7_takeWindowName_38 (by decide) ?_
    refine wp_callV (as := [.int 5]) dX7_takeWindowName_39 cb_X7_awaits lk_X7_131 im_X7_awaits se_X7_awaits rfl (Nat.le_of_ble_eq_true rfl) ⟨by decide, by decide⟩ ⟨Nat.le_refl _, Nat.le_refl _, Nat.le_refl _⟩ i1 rfl (by decide) hb (fun r0 h16 hb => ?_)
    obtain ⟨r17, rfl, hb⟩ := hb
    obtain ⟨q18, hb⟩ := hb
    exact wp_zret rfl dX7_takeWindowName_42 q18 ⟨_, rfl, hb⟩
  · have hb := hb.2 c10
    refine wp_iconst (v := 0) dX7_takeWindowName_21 (by decide) ?_
    exact wp_zret rfl dX7_takeWindowName_22 (Or.inl rfl) ⟨_, rfl, hb⟩
theorem c_X7_takeWindowName {l : Launch} {g : AG} {h : AH} {x0 : Nat}  {Q : Int32 → AH → Prop} (hb : L_X7_takeWindowName_0 l g h x0  Q) : C_X7_takeWindowName l g h x0  Q := ax_met rfl rfl (Nat.le_of_ble_eq_true rfl) hb
def C_X7_takePart (l : Launch) (g : AG) (h : AH) (x0 : Nat)  (Q : Int32 → AH → Prop) : Prop := Ct l g mX7_takePart 5 142 194 194 h [.ref x0] (ax_QI Q)
def L_X7_takePart_0 (l : Launch) (g : AG) (h : AH) (x0 : Nat)  (Q : Int32 → AH → Prop) : Prop := Wp l g mX7_takePart 5 142 194 194 194 0 [(0, .ref x0)] [] h (FM g 194 194 (ax_QI Q))
set_option maxRecDepth 100000 in
set_option maxHeartbeats 4000000 in
theorem s_X7_takePart_0 {l : Launch} {g : AG} {h : AH} {x0 : Nat}  {Q : Int32 → AH → Prop} (hb : (Is 194 x0 6) ∧ ( (Is 194 (h.2.2 x0 1) 0) ∧ ( ∀ v3 : Int32, v3 = ((h.1 (h.2.2 x0 1) 0) - 1) → ( (Is 194 (h.2.2 x0 0) 7) ∧ ( ((¬ h.1 (h.2.2 x0 0) 3 = 125 → ((Is 194 (h.2.2 x0 1) 0) ∧ ( (Is 194 (h.2.2 (h.2.2 x0 1) 13) 20) ∧ ( (vp_in v3 (ax_s (h.2.2 (h.2.2 x0 1) 13)).2) ∧ ( ((h.1 (h.2.2 (h.2.2 x0 1) 13) v3.toNatClampNeg ≤ 0 → ((Is 194 (h.2.2 x0 0) 7) ∧ ( C_X8_says l g h (h.2.2 x0 0) 1001 (fun r14 h13 => ( ((r14 = 0 → ((Is 194 (h13.2.2 x0 0) 7) ∧ ( C_X8_says l g h13 (h13.2.2 x0 0) 1003 (fun r19 h18 => ( ((r19 = 0 → ((Is 194 (h18.2.2 x0 1) 0) ∧ ( (Is 194 (h18.2.2 (h18.2.2 x0 1) 15) 20) ∧ ( (vp_in v3 (ax_s (h18.2.2 (h18.2.2 x0 1) 15)).2) ∧ ( ∀ v24 : Int32, v24 = (h18.1 (h18.2.2 (h18.2.2 x0 1) 15) v3.toNatClampNeg) → ( (Is 194 (h18.2.2 x0 1) 0) ∧ ( (Is 194 (h18.2.2 (h18.2.2 x0 1) 14) 20) ∧ ( (vp_in v3 (ax_s (h18.2.2 (h18.2.2 x0 1) 14)).2) ∧ ( ∀ v29 : Int32, v29 = (h18.1 (h18.2.2 (h18.2.2 x0 1) 14) v3.toNatClampNeg) → ( ((v29 < v24 → (C_X7_faulty l g h18 x0 1 (fun r34 h33 => ( (r34 = 0 ∨ r34 = 1) ∧ ( Q r34 h33))))) ∧ (¬ (v29 < v24) → ((Is 194 (h18.2.2 x0 0) 7) ∧ ( C_X8_says l g h18 (h18.2.2 x0 0) 1011 (fun r39 h38 => ( ((¬ r39 = 0 → ((Is 194 (h38.2.2 x0 1) 0) ∧ ( (Is 194 (h38.2.2 (h38.2.2 x0 1) 11) 20) ∧ ( (vp_in v3 (ax_s (h38.2.2 (h38.2.2 x0 1) 11)).2) ∧ ( ∀ v44 : Int32, v44 = (h38.1 (h38.2.2 (h38.2.2 x0 1) 11) v3.toNatClampNeg) → ( ((6 ≤ v44 → (C_X7_faulty l g h38 x0 5 (fun r49 h48 => ( (r49 = 0 ∨ r49 = 1) ∧ ( Q r49 h48))))) ∧ (¬ (6 ≤ v44) → (C_X7_awaits l g h38 x0 7 (fun r53 h52 => ( (r53 = 0 ∨ r53 = 1) ∧ ( Q r53 h52)))))))))))) ∧ (r39 = 0 → (C_X7_faulty l g h38 x0 1 (fun r57 h56 => ( (r57 = 0 ∨ r57 = 1) ∧ ( Q r57 h56)))))))))))))))))))))) ∧ (¬ (r19 = 0) → ((Is 194 (h18.2.2 x0 1) 0) ∧ ( ((24 ≤ h18.1 (h18.2.2 x0 1) 1 → (C_X7_faulty l g h18 x0 5 (fun r63 h62 => ( (r63 = 0 ∨ r63 = 1) ∧ ( Q r63 h62))))) ∧ (¬ (24 ≤ h18.1 (h18.2.2 x0 1) 1) → (C_X7_awaits l g h18 x0 9 (fun r67 h66 => ( (r67 = 0 ∨ r67 = 1) ∧ ( Q r67 h66))))))))))))))) ∧ (¬ (r14 = 0) → (C_X7_awaits l g h13 x0 15 (fun r71 h70 => ( (r71 = 0 ∨ r71 = 1) ∧ ( Q r71 h70))))))))))) ∧ (¬ (h.1 (h.2.2 (h.2.2 x0 1) 13) v3.toNatClampNeg ≤ 0) → (C_X7_faulty l g h x0 1 (fun r75 h74 => ( (r75 = 0 ∨ r75 = 1) ∧ ( Q r75 h74))))))))))) ∧ (h.1 (h.2.2 x0 0) 3 = 125 → (C_X7_awaits l g h x0 0 (fun r79 h78 => ( (r79 = 0 ∨ r79 = 1) ∧ ( Q r79 h78))))))))))) : L_X7_takePart_0 l g h x0  Q := by
  obtain ⟨i1, hb⟩ := hb
  refine wp_aload_n 0 dX7_takePart_0 rfl rfl ?_
  obtain ⟨i2, hb⟩ := hb
  refine wp_getR dX7_takePart_1 fl_X7_64 i1 (i2.ne (by decide)) ?_
  refine wp_getI dX7_takePart_4 fl_X7_83 i2 ?_
  refine wp_iconst (v := 1) dX7_takePart_7 (by decide) ?_
  refine wp_isub dX7_takePart_8 ?_
  refine wp_topi (fun v3 e4 => ?_)
  have hb := hb v3 e4
  refine wp_istore_n (lv2 := [(1, .int v3), (0, .ref x0)]) dX7_takePart_9 rfl (by decide) rfl ?_
  refine wp_aload_n 1 dX7_takePart_10 rfl rfl ?_
  obtain ⟨i5, hb⟩ := hb
  refine wp_getR dX7_takePart_11 fl_X7_12 i1 (i5.ne (by decide)) ?_
  refine wp_getI dX7_takePart_14 fl_X7_80 i5 ?_
  refine wp_bipush (v := 125) dX7_takePart_17 (by decide) ?_
  refine wp_icmp_ne (tgt := 28) dX7_takePart_19 (by decide) (fun c6 => ?_) (fun c6 => ?_)
  · have hb := hb.1 c6
    refine wp_aload_n 1 dX7_takePart_28 rfl rfl ?_
    obtain ⟨i7, hb⟩ := hb
    refine wp_getR dX7_takePart_29 fl_X7_64 i1 (i7.ne (by decide)) ?_
    obtain ⟨i8, hb⟩ := hb
    refine wp_getR dX7_takePart_32 fl_X7_200 i7 (i8.ne (by decide)) ?_
    refine wp_iload_n 0 dX7_takePart_35 rfl rfl ?_
    obtain ⟨b9, hb⟩ := hb
    refine wp_iaload dX7_takePart_36 i8 b9 ?_
    refine wp_if_le (tgt := 46) dX7_takePart_37 (by decide) (fun c10 => ?_) (fun c10 => ?_)
    · have hb := hb.1 c10
      refine wp_aload_n 1 dX7_takePart_46 rfl rfl ?_
      obtain ⟨i11, hb⟩ := hb
      refine wp_getR dX7_takePart_47 fl_X7_12 i1 (i11.ne (by decide)) ?_
      refine wp_ldcS (q := ("WindowHouse$Reader", 203, "after", 1)) dX7_takePart_50 (by decide +kernel) rfl rfl (by decide) ?_
      refine wp_callVN (as := [.ref 1001]) dX7_takePart_52 cb_X8_says lk_X7_127 im_X8_says se_X8_says rfl (Nat.le_of_ble_eq_true rfl) ⟨by decide, by decide⟩ ⟨Nat.le_refl _, Nat.le_refl _, Nat.le_refl _⟩ i11 rfl (by decide) hb (fun r0 h13 hb => ?_)
      obtain ⟨r14, rfl, hb⟩ := hb
      refine wp_if_eq (tgt := 65) dX7_takePart_55 (by decide) (fun c15 => ?_) (fun c15 => ?_)
      · have hb := hb.1 c15
        refine wp_aload_n 1 dX7_takePart_65 rfl rfl ?_
        obtain ⟨i16, hb⟩ := hb
        refine wp_getR dX7_takePart_66 fl_X7_12 i1 (i16.ne (by decide)) ?_
        refine wp_ldcS (q := ("WindowHouse$Reader", 205, "button", 3)) dX7_takePart_69 (by decide +kernel) rfl rfl (by decide) ?_
        refine wp_callVN (as := [.ref 1003]) dX7_takePart_71 cb_X8_says lk_X7_127 im_X8_says se_X8_says rfl (Nat.le_of_ble_eq_true rfl) ⟨by decide, by decide⟩ ⟨Nat.le_refl _, Nat.le_refl _, Nat.le_refl _⟩ i16 rfl (by decide) hb (fun r0 h18 hb => ?_)
        obtain ⟨r19, rfl, hb⟩ := hb
        refine wp_if_eq (tgt := 104) dX7_takePart_74 (by decide) (fun c20 => ?_) (fun c20 => ?_)
        · have hb := hb.1 c20
          refine wp_aload_n 1 dX7_takePart_104 rfl rfl ?_
          obtain ⟨i21, hb⟩ := hb
          refine wp_getR dX7_takePart_105 fl_X7_64 i1 (i21.ne (by decide)) ?_
          obtain ⟨i22, hb⟩ := hb
          refine wp_getR dX7_takePart_108 fl_X7_210 i21 (i22.ne (by decide)) ?_
          refine wp_iload_n 0 dX7_takePart_111 rfl rfl ?_
          obtain ⟨b23, hb⟩ := hb
          refine wp_iaload dX7_takePart_112 i22 b23 ?_
          refine wp_topi (fun v24 e25 => ?_)
          have hb := hb v24 e25
          refine wp_aload_n 1 dX7_takePart_113 rfl rfl ?_
          obtain ⟨i26, hb⟩ := hb
          refine wp_getR dX7_takePart_114 fl_X7_64 i1 (i26.ne (by decide)) ?_
          obtain ⟨i27, hb⟩ := hb
          refine wp_getR dX7_takePart_117 fl_X7_213 i26 (i27.ne (by decide)) ?_
          refine wp_iload_n 0 dX7_takePart_120 rfl rfl ?_
          obtain ⟨b28, hb⟩ := hb
          refine wp_iaload dX7_takePart_121 i27 b28 ?_
          refine wp_topi (fun v29 e30 => ?_)
          have hb := hb v29 e30
          refine wp_icmp_gt (tgt := 137) dX7_takePart_122 (by decide) (fun c31 => ?_) (fun c31 => ?_)
          · have hb := hb.1 c31
            refine wp_aload_n 1 dX7_takePart_137 rfl rfl ?_
            refine wp_iconst (v := 1) dX7_takePart_138 (by decide) ?_
            refine wp_callV (as := [.int 1]) dX7_takePart_139 cb_X7_faulty lk_X7_90 im_X7_faulty se_X7_faulty rfl (Nat.le_of_ble_eq_true rfl) ⟨by decide, by decide⟩ ⟨Nat.le_refl _, Nat.le_refl _, Nat.le_refl _⟩ i1 rfl (by decide) hb (fun r0 h33 hb => ?_)
            obtain ⟨r34, rfl, hb⟩ := hb
            obtain ⟨q35, hb⟩ := hb
            exact wp_zret rfl dX7_takePart_142 q35 ⟨_, rfl, hb⟩
          · have hb := hb.2 c31
            refine wp_aload_n 1 dX7_takePart_125 rfl rfl ?_
            obtain ⟨i36, hb⟩ := hb
            refine wp_getR dX7_takePart_126 fl_X7_12 i1 (i36.ne (by decide)) ?_
            refine wp_ldcS (q := ("WindowHouse$Reader", 216, "show", 11)) dX7_takePart_129 (by decide +kernel) rfl rfl (by decide) ?_
            refine wp_callVN (as := [.ref 1011]) dX7_takePart_131 cb_X8_says lk_X7_127 im_X8_says se_X8_says rfl (Nat.le_of_ble_eq_true rfl) ⟨by decide, by decide⟩ ⟨Nat.le_refl _, Nat.le_refl _, Nat.le_refl _⟩ i36 rfl (by decide) hb (fun r0 h38 hb => ?_)
            obtain ⟨r39, rfl, hb⟩ := hb
            refine wp_if_ne (tgt := 143) dX7_takePart_134 (by decide) (fun c40 => ?_) (fun c40 => ?_)
            · have hb := hb.1 c40
              refine wp_aload_n 1 dX7_takePart_143 rfl rfl ?_
              obtain ⟨i41, hb⟩ := hb
              refine wp_getR dX7_takePart_144 fl_X7_64 i1 (i41.ne (by decide)) ?_
              obtain ⟨i42, hb⟩ := hb
              refine wp_getR dX7_takePart_147 fl_X7_218 i41 (i42.ne (by decide)) ?_
              refine wp_iload_n 0 dX7_takePart_150 rfl rfl ?_
              obtain ⟨b43, hb⟩ := hb
              refine wp_iaload dX7_takePart_151 i42 b43 ?_
              refine wp_topi (fun v44 e45 => ?_)
              have hb := hb v44 e45
              refine wp_bipush (v := 6) dX7_takePart_152 (by decide) ?_
              refine wp_icmp_ge (tgt := 166) dX7_takePart_154 (by decide) (fun c46 => ?_) (fun c46 => ?_)
              · have hb := hb.1 c46
                refine wp_aload_n 1 dX7_takePart_166 rfl rfl ?_
                refine wp_iconst (v := 5) dX7_takePart_167 (by decide) ?_
                refine wp_callV (as := [.int 5]) dX7_takePart_168 cb_X7_faulty lk_X7_90 im_X7_faulty se_X7_faulty rfl (Nat.le_of_ble_eq_true rfl) ⟨by decide, by decide⟩ ⟨Nat.le_refl _, Nat.le_refl _, Nat.le_refl _⟩ i1 rfl (by decide) hb (fun r0 h48 hb => ?_)
                obtain ⟨r49, rfl, hb⟩ := hb
                obtain ⟨q50, hb⟩ := hb
                exact wp_zret rfl dX7_takePart_171 q50 ⟨_, rfl, hb⟩
              · have hb := hb.2 c46
                refine wp_aload_n 1 dX7_takePart_157 rfl rfl ?_
                refine wp_bipush (v := 7) dX7_takePart_158 (by decide) ?_
                refine wp_callV (as := [.int 7]) dX7_takePart_160 cb_X7_awaits lk_X7_131 im_X7_awaits se_X7_awaits rfl (Nat.le_of_ble_eq_true rfl) ⟨by decide, by decide⟩ ⟨Nat.le_refl _, Nat.le_refl _, Nat.le_refl _⟩ i1 rfl (by decide) hb (fun r0 h52 hb => ?_)
                obtain ⟨r53, rfl, hb⟩ := hb
                refine wp_goto (tgt := 171) dX7_takePart_163 (by decide) ?_
                obtain ⟨q54, hb⟩ := hb
                exact wp_zret rfl dX7_takePart_171 q54 ⟨_, rfl, hb⟩
            · have hb := hb.2 c40
              refine wp_aload_n 1 dX7_takePart_137 rfl rfl ?_
              refine wp_iconst (v := 1) dX7_takePart_138 (by decide) ?_
              refine wp_callV (as := [.int 1]) dX7_takePart_139 cb_X7_faulty lk_X7_90 im_X7_faulty se_X7_faulty rfl (Nat.le_of_ble_eq_true rfl) ⟨by decide, by decide⟩ ⟨Nat.le_refl _, Nat.le_refl _, Nat.le_refl _⟩ i1 rfl (by decide) hb (fun r0 h56 hb => ?_)
              obtain ⟨r57, rfl, hb⟩ := hb
              obtain ⟨q58, hb⟩ := hb
              exact wp_zret rfl dX7_takePart_142 q58 ⟨_, rfl, hb⟩
        · have hb := hb.2 c20
          refine wp_aload_n 1 dX7_takePart_77 rfl rfl ?_
          obtain ⟨i59, hb⟩ := hb
          refine wp_getR dX7_takePart_78 fl_X7_64 i1 (i59.ne (by decide)) ?_
          refine wp_getI dX7_takePart_81 fl_X7_207 i59 ?_
          refine wp_bipush (v := 24) dX7_takePart_84 (by decide) ?_
          refine wp_icmp_ge (tgt := 98) dX7_takePart_86 (by decide) (fun c60 => ?_) (fun c60 => ?_)
          · have hb := hb.1 c60
            refine wp_aload_n 1 dX7_takePart_98 rfl rfl ?_
            refine wp_iconst (v := 5) dX7_takePart_99 (by decide) ?_
            refine wp_callV (as := [.int 5]) dX7_takePart_100 cb_X7_faulty lk_X7_90 im_X7_faulty se_X7_faulty rfl (Nat.le_of_ble_eq_true rfl) ⟨by decide, by decide⟩ ⟨Nat.le_refl _, Nat.le_refl _, Nat.le_refl _⟩ i1 rfl (by decide) hb (fun r0 h62 hb => ?_)
            obtain ⟨r63, rfl, hb⟩ := hb
            obtain ⟨q64, hb⟩ := hb
            exact wp_zret rfl dX7_takePart_103 q64 ⟨_, rfl, hb⟩
          · have hb := hb.2 c60
            refine wp_aload_n 1 dX7_takePart_89 rfl rfl ?_
            refine wp_bipush (v := 9) dX7_takePart_90 (by decide) ?_
            refine wp_callV (as := [.int 9]) dX7_takePart_92 cb_X7_awaits lk_X7_131 im_X7_awaits se_X7_awaits rfl (Nat.le_of_ble_eq_true rfl) ⟨by decide, by decide⟩ ⟨Nat.le_refl _, Nat.le_refl _, Nat.le_refl _⟩ i1 rfl (by decide) hb (fun r0 h66 hb => ?_)
            obtain ⟨r67, rfl, hb⟩ := hb
            refine wp_goto (tgt := 103) dX7_takePart_95 (by decide) ?_
            obtain ⟨q68, hb⟩ := hb
            exact wp_zret rfl dX7_takePart_103 q68 ⟨_, rfl, hb⟩
      · have hb := hb.2 c15
        refine wp_aload_n 1 dX7_takePart_58 rfl rfl ?_
        refine wp_bipush (v := 15) dX7_takePart_59 (by decide) ?_
        refine wp_callV (as := [.int 15]) dX7_takePart_61 cb_X7_awaits lk_X7_131 im_X7_awaits se_X7_awaits rfl (Nat.le_of_ble_eq_true rfl) ⟨by decide, by decide⟩ ⟨Nat.le_refl _, Nat.le_refl _, Nat.le_refl _⟩ i1 rfl (by decide) hb (fun r0 h70 hb => ?_)
        obtain ⟨r71, rfl, hb⟩ := hb
        obtain ⟨q72, hb⟩ := hb
        exact wp_zret rfl dX7_takePart_64 q72 ⟨_, rfl, hb⟩
    · have hb := hb.2 c10
      refine wp_aload_n 1 dX7_takePart_40 rfl rfl ?_
      refine wp_iconst (v := 1) dX7_takePart_41 (by decide) ?_
      refine wp_callV (as := [.int 1]) dX7_takePart_42 cb_X7_faulty lk_X7_90 im_X7_faulty se_X7_faulty rfl (Nat.le_of_ble_eq_true rfl) ⟨by decide, by decide⟩ ⟨Nat.le_refl _, Nat.le_refl _, Nat.le_refl _⟩ i1 rfl (by decide) hb (fun r0 h74 hb => ?_)
      obtain ⟨r75, rfl, hb⟩ := hb
      obtain ⟨q76, hb⟩ := hb
      exact wp_zret rfl dX7_takePart_45 q76 ⟨_, rfl, hb⟩
  · have hb := hb.2 c6
    refine wp_aload_n 1 dX7_takePart_22 rfl rfl ?_
    refine wp_iconst (v := 0) dX7_takePart_23 (by decide) ?_
    refine wp_callV (as := [.int 0]) dX7_takePart_24 cb_X7_awaits lk_X7_131 im_X7_awaits se_X7_awaits rfl (Nat.le_of_ble_eq_true rfl) ⟨by decide, by decide⟩ ⟨Nat.le_refl _, Nat.le_refl _, Nat.le_refl _⟩ i1 rfl (by decide) hb (fun r0 h78 hb => ?_)
    obtain ⟨r79, rfl, hb⟩ := hb
    obtain ⟨q80, hb⟩ := hb
    exact wp_zret rfl dX7_takePart_27 q80 ⟨_, rfl, hb⟩
theorem c_X7_takePart {l : Launch} {g : AG} {h : AH} {x0 : Nat}  {Q : Int32 → AH → Prop} (hb : L_X7_takePart_0 l g h x0  Q) : C_X7_takePart l g h x0  Q := ax_met rfl rfl (Nat.le_of_ble_eq_true rfl) hb
def C_X7_isVar (l : Launch) (g : AG) (h : AH) (x0 : Nat)  (Q : Int32 → AH → Prop) : Prop := Ct l g mX7_isVar 2 47 194 194 h [.ref x0] (ax_QI Q)
def L_X7_isVar_0 (l : Launch) (g : AG) (h : AH) (x0 : Nat)  (Q : Int32 → AH → Prop) : Prop := Wp l g mX7_isVar 2 47 194 194 194 0 [(0, .ref x0)] [] h (FM g 194 194 (ax_QI Q))
set_option maxRecDepth 100000 in
set_option maxHeartbeats 4000000 in
theorem s_X7_isVar_0 {l : Launch} {g : AG} {h : AH} {x0 : Nat}  {Q : Int32 → AH → Prop} (hb : (Is 194 x0 6) ∧ ( (Is 194 (h.2.2 x0 0) 7) ∧ ( ((h.1 (h.2.2 x0 0) 3 = 1 → ((Is 194 (h.2.2 x0 1) 0) ∧ ( (Is 194 (h.2.2 x0 0) 7) ∧ ( C_X0_varNamed l g h (h.2.2 x0 1) (h.2.1 (h.2.2 x0 0) 5) (fun r8 h7 => ( ∀ h9 : AH, h9 = ax_setI h7 x0 7 r8 → ( ((¬ h9.1 x0 7 = (-1) → (Q 1 h9)) ∧ (h9.1 x0 7 = (-1) → (C_X7_faulty l g h9 x0 2 (fun r14 h13 => ( ((r14 = 0 → (Q 0 h13)) ∧ (¬ (r14 = 0) → (Q 1 h13))))))))))))))) ∧ (¬ (h.1 (h.2.2 x0 0) 3 = 1) → (C_X7_faulty l g h x0 1 (fun r18 h17 => ( (r18 = 0 ∨ r18 = 1) ∧ ( Q r18 h17))))))))) : L_X7_isVar_0 l g h x0  Q := by
  obtain ⟨i1, hb⟩ := hb
  refine wp_aload_n 0 dX7_isVar_0 rfl rfl ?_
  obtain ⟨i2, hb⟩ := hb
  refine wp_getR dX7_isVar_1 fl_X7_12 i1 (i2.ne (by decide)) ?_
  refine wp_getI dX7_isVar_4 fl_X7_80 i2 ?_
  refine wp_iconst (v := 1) dX7_isVar_7 (by decide) ?_
  refine wp_icmp_eq (tgt := 17) dX7_isVar_8 (by decide) (fun c3 => ?_) (fun c3 => ?_)
  · have hb := hb.1 c3
    refine wp_aload_n 0 dX7_isVar_17 rfl rfl ?_
    refine wp_aload_n 0 dX7_isVar_18 rfl rfl ?_
    obtain ⟨i4, hb⟩ := hb
    refine wp_getR dX7_isVar_19 fl_X7_64 i1 (i4.ne (by decide)) ?_
    refine wp_aload_n 0 dX7_isVar_22 rfl rfl ?_
    obtain ⟨i5, hb⟩ := hb
    refine wp_getR dX7_isVar_23 fl_X7_12 i1 (i5.ne (by decide)) ?_
    refine wp_getL dX7_isVar_26 fl_X7_168 i5 ?_
    refine wp_callVN (as := [.long (h.2.1 (h.2.2 x0 0) 5)]) dX7_isVar_29 cb_X0_varNamed lk_X7_171 im_X0_varNamed se_X0_varNamed rfl (Nat.le_of_ble_eq_true rfl) ⟨by decide, by decide⟩ ⟨Nat.le_refl _, Nat.le_refl _, Nat.le_refl _⟩ i4 rfl (by decide) hb (fun r0 h7 hb => ?_)
    obtain ⟨r8, rfl, hb⟩ := hb
    refine wp_putI dX7_isVar_32 fl_X7_36 (Or.inl rfl) i1 ?_
    refine wp_topH (fun h9 e10 => ?_)
    have hb := hb h9 e10
    refine wp_aload_n 0 dX7_isVar_35 rfl rfl ?_
    refine wp_getI dX7_isVar_36 fl_X7_36 i1 ?_
    refine wp_iconst (v := (-1)) dX7_isVar_39 (by decide) ?_
    refine wp_icmp_ne (tgt := 51) dX7_isVar_40 (by decide) (fun c11 => ?_) (fun c11 => ?_)
    · have hb := hb.1 c11
      refine wp_iconst (v := 1) dX7_isVar_51 (by decide) ?_
      refine wp_goto (tgt := 56) dX7_isVar_52 (by decide) ?_
      exact wp_zret rfl dX7_isVar_56 (Or.inr rfl) ⟨_, rfl, hb⟩
    · have hb := hb.2 c11
      refine wp_aload_n 0 dX7_isVar_43 rfl rfl ?_
      refine wp_iconst (v := 2) dX7_isVar_44 (by decide) ?_
      refine wp_callV (as := [.int 2]) dX7_isVar_45 cb_X7_faulty lk_X7_90 im_X7_faulty se_X7_faulty rfl (Nat.le_of_ble_eq_true rfl) ⟨by decide, by decide⟩ ⟨Nat.le_refl _, Nat.le_refl _, Nat.le_refl _⟩ i1 rfl (by decide) hb (fun r0 h13 hb => ?_)
      obtain ⟨r14, rfl, hb⟩ := hb
      refine wp_if_eq (tgt := 55) dX7_isVar_48 (by decide) (fun c15 => ?_) (fun c15 => ?_)
      · have hb := hb.1 c15
        refine wp_iconst (v := 0) dX7_isVar_55 (by decide) ?_
        exact wp_zret rfl dX7_isVar_56 (Or.inl rfl) ⟨_, rfl, hb⟩
      · have hb := hb.2 c15
        refine wp_iconst (v := 1) dX7_isVar_51 (by decide) ?_
        refine wp_goto (tgt := 56) dX7_isVar_52 (by decide) ?_
        exact wp_zret rfl dX7_isVar_56 (Or.inr rfl) ⟨_, rfl, hb⟩
  · have hb := hb.2 c3
    refine wp_aload_n 0 dX7_isVar_11 rfl rfl ?_
    refine wp_iconst (v := 1) dX7_isVar_12 (by decide) ?_
    refine wp_callV (as := [.int 1]) dX7_isVar_13 cb_X7_faulty lk_X7_90 im_X7_faulty se_X7_faulty rfl (Nat.le_of_ble_eq_true rfl) ⟨by decide, by decide⟩ ⟨Nat.le_refl _, Nat.le_refl _, Nat.le_refl _⟩ i1 rfl (by decide) hb (fun r0 h17 hb => ?_)
    obtain ⟨r18, rfl, hb⟩ := hb
    obtain ⟨q19, hb⟩ := hb
    exact wp_zret rfl dX7_isVar_16 q19 ⟨_, rfl, hb⟩
theorem c_X7_isVar {l : Launch} {g : AG} {h : AH} {x0 : Nat}  {Q : Int32 → AH → Prop} (hb : L_X7_isVar_0 l g h x0  Q) : C_X7_isVar l g h x0  Q := ax_met rfl rfl (Nat.le_of_ble_eq_true rfl) hb
