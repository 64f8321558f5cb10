def C_X8_says (l : Launch) (g : AG) (h : AH) (x0 : Nat) (x1 : Nat)  (Q : Int32 → AH → Prop) : Prop := Ct l g mX8_says 4 120 194 194 h [.ref x0, .ref x1] (ax_QI Q)
def L_X8_says_0 (l : Launch) (g : AG) (h : AH) (x0 : Nat) (x1 : Nat)  (Q : Int32 → AH → Prop) : Prop := Wp l g mX8_says 4 120 194 194 194 0 [(0, .ref x0), (1, .ref x1)] [] h (FM g 194 194 (ax_QI Q))
def L_X8_says_28 (l : Launch) (g : AG) (h : AH) (x0 : Nat) (x1 : Nat) (x2 : Int32)  (Q : Int32 → AH → Prop) : Prop := Wp l g mX8_says 4 120 194 194 194 28 [(0, .ref x0), (1, .ref x1), (2, .int x2)] [] h (FM g 194 194 (ax_QI Q))
set_option maxRecDepth 100000 in
set_option maxHeartbeats 4000000 in
theorem s_X8_says_0 {l : Launch} {g : AG} {h : AH} {x0 : Nat} {x1 : Nat}  {Q : Int32 → AH → Prop} (hb : (Is 194 x0 7) ∧ ( ((¬ h.1 x0 3 = 1 → (Q 0 h)) ∧ (h.1 x0 3 = 1 → ((1000 ≤ x1 ∧ x1 < 1014) ∧ ( (((h.1 x0 2) - (h.1 x0 4) = nI (ax_sl.getD (x1 - 1000) 0) → (L_X8_says_28 l g h x0 x1 0  Q)) ∧ (¬ ((h.1 x0 2) - (h.1 x0 4) = nI (ax_sl.getD (x1 - 1000) 0)) → (Q 0 h))))))))) : L_X8_says_0 l g h x0 x1  Q := by
  obtain ⟨i1, hb⟩ := hb
  refine wp_aload_n 0 dX8_says_0 rfl rfl ?_
  refine wp_getI dX8_says_1 fl_X8_22 i1 ?_
  refine wp_iconst (v := 1) dX8_says_4 (by decide) ?_
  refine wp_icmp_ne (tgt := 24) dX8_says_5 (by decide) (fun c2 => ?_) (fun c2 => ?_)
  · have hb := hb.1 c2
    refine wp_iconst (v := 0) dX8_says_24 (by decide) ?_
    exact wp_zret rfl dX8_says_25 (Or.inl rfl) ⟨_, rfl, hb⟩
  · have hb := hb.2 c2
    refine wp_aload_n 0 dX8_says_8 rfl rfl ?_
    refine wp_getI dX8_says_9 fl_X8_19 i1 ?_
    refine wp_aload_n 0 dX8_says_12 rfl rfl ?_
    refine wp_getI dX8_says_13 fl_X8_25 i1 ?_
    refine wp_isub dX8_says_16 ?_
    refine wp_aload_n 1 dX8_says_17 rfl rfl ?_
    obtain ⟨q3, hb⟩ := hb
    refine wp_slen dX8_says_18 lk_X8_57 q3 (Nat.le_of_ble_eq_true rfl) (by decide) (by decide) ?_
    refine wp_icmp_eq (tgt := 26) dX8_says_21 (by decide) (fun c4 => ?_) (fun c4 => ?_)
    · have hb := hb.1 c4
      refine wp_iconst (v := 0) dX8_says_26 (by decide) ?_
      refine wp_istore_n (lv2 := [(2, .int 0), (0, .ref x0), (1, .ref x1)]) dX8_says_27 rfl (by decide) rfl ?_
      exact wp_sub [1, 2, 0] rfl hb
    · have hb := hb.2 c4
      refine wp_iconst (v := 0) dX8_says_24 (by decide) ?_
      exact wp_zret rfl dX8_says_25 (Or.inl rfl) ⟨_, rfl, hb⟩
set_option maxRecDepth 100000 in
set_option maxHeartbeats 4000000 in
theorem s_X8_says_28 {l : Launch} {g : AG} {h : AH} {x0 : Nat} {x1 : Nat} {x2 : Int32}  {Q : Int32 → AH → Prop} (hb : (1000 ≤ x1 ∧ x1 < 1014) ∧ ( ((nI (ax_sl.getD (x1 - 1000) 0) ≤ x2 → (Q 1 h)) ∧ (¬ (nI (ax_sl.getD (x1 - 1000) 0) ≤ x2) → ((Is 194 x0 7) ∧ ( (Is 194 (h.2.2 x0 0) 20) ∧ ( (vp_in ((h.1 x0 4) + x2) (ax_s (h.2.2 x0 0)).2) ∧ ( (1000 ≤ x1 ∧ x1 < 1014) ∧ ( (vp_in x2 (ax_sl.getD (x1 - 1000) 0)) ∧ ( ∀ v12 : Int32, v12 = ((ax_sb.getD (x1 - 1000) []).getD x2.toNatClampNeg 0) → ( ((h.1 (h.2.2 x0 0) ((h.1 x0 4) + x2).toNatClampNeg = v12 → (∀ v15 : Int32, v15 = x2 + (1) → ( L_X8_says_28 l g h x0 x1 v15  Q))) ∧ (¬ (h.1 (h.2.2 x0 0) ((h.1 x0 4) + x2).toNatClampNeg = v12) → (Q 0 h)))))))))))))) : L_X8_says_28 l g h x0 x1 x2  Q := by
  refine wp_iload_n 2 dX8_says_28 rfl rfl ?_
  refine wp_aload_n 1 dX8_says_29 rfl rfl ?_
  obtain ⟨q5, hb⟩ := hb
  refine wp_slen dX8_says_30 lk_X8_57 q5 (Nat.le_of_ble_eq_true rfl) (by decide) (by decide) ?_
  refine wp_icmp_ge (tgt := 63) dX8_says_33 (by decide) (fun c6 => ?_) (fun c6 => ?_)
  · have hb := hb.1 c6
    refine wp_iconst (v := 1) dX8_says_63 (by decide) ?_
    exact wp_zret rfl dX8_says_64 (Or.inr rfl) ⟨_, rfl, hb⟩
  · have hb := hb.2 c6
    obtain ⟨i7, hb⟩ := hb
    refine wp_aload_n 0 dX8_says_36 rfl rfl ?_
    obtain ⟨i8, hb⟩ := hb
    refine wp_getR dX8_says_37 fl_X8_9 i7 (i8.ne (by decide)) ?_
    refine wp_aload_n 0 dX8_says_40 rfl rfl ?_
    refine wp_getI dX8_says_41 fl_X8_25 i7 ?_
    refine wp_iload_n 2 dX8_says_44 rfl rfl ?_
    refine wp_iadd dX8_says_45 ?_
    obtain ⟨b9, hb⟩ := hb
    refine wp_iaload dX8_says_46 i8 b9 ?_
    refine wp_aload_n 1 dX8_says_47 rfl rfl ?_
    refine wp_iload_n 2 dX8_says_48 rfl rfl ?_
    obtain ⟨q10, hb⟩ := hb
    obtain ⟨q11, hb⟩ := hb
    refine wp_schar dX8_says_49 lk_X8_62 q10 q11 (Nat.le_of_ble_eq_true rfl) (by decide) (by decide) ?_
    refine wp_topi (fun v12 e13 => ?_)
    have hb := hb v12 e13
    refine wp_icmp_eq (tgt := 57) dX8_says_52 (by decide) (fun c14 => ?_) (fun c14 => ?_)
    · have hb := hb.1 c14
      obtain ⟨v15, e16⟩ : ∃ y : Int32, y = x2 + (1) := ⟨_, rfl⟩
      have hb := hb v15 e16
      refine wp_iinc (v := v15) (lv2 := [(2, .int v15), (0, .ref x0), (1, .ref x1)]) 2 dX8_says_57 rfl (by rw [e16]; rfl) (by decide) rfl ?_
      refine wp_goto (tgt := 28) dX8_says_60 (by decide) ?_
      exact wp_sub [1, 2, 0] rfl hb
    · have hb := hb.2 c14
      refine wp_iconst (v := 0) dX8_says_55 (by decide) ?_
      exact wp_zret rfl dX8_says_56 (Or.inl rfl) ⟨_, rfl, hb⟩
theorem c_X8_says {l : Launch} {g : AG} {h : AH} {x0 : Nat} {x1 : Nat}  {Q : Int32 → AH → Prop} (hb : L_X8_says_0 l g h x0 x1  Q) : C_X8_says l g h x0 x1  Q := ax_met rfl (Nat.le_of_ble_eq_true rfl) hb
def C_X7_awaits (l : Launch) (g : AG) (h : AH) (x0 : Nat) (x1 : Int32)  (Q : Int32 → AH → Prop) : Prop := Ct l g mX7_awaits 0 0 194 194 h [.ref x0, .int x1] (ax_QI Q)
def L_X7_awaits_0 (l : Launch) (g : AG) (h : AH) (x0 : Nat) (x1 : Int32)  (Q : Int32 → AH → Prop) : Prop := Wp l g mX7_awaits 0 0 194 194 194 0 [(0, .ref x0), (1, .int x1)] [] h (FM g 194 194 (ax_QI Q))
set_option maxRecDepth 100000 in
set_option maxHeartbeats 4000000 in
theorem s_X7_awaits_0 {l : Launch} {g : AG} {h : AH} {x0 : Nat} {x1 : Int32}  {Q : Int32 → AH → Prop} (hb : (Is 194 x0 6) ∧ ( ∀ h2 : AH, h2 = ax_setI h x0 2 x1 → ( Q 1 h2))) : L_X7_awaits_0 l g h x0 x1  Q := by
  obtain ⟨i1, hb⟩ := hb
  refine wp_aload_n 0 dX7_awaits_0 rfl rfl ?_
  refine wp_iload_n 1 dX7_awaits_1 rfl rfl ?_
  refine wp_putI dX7_awaits_2 fl_X7_18 (Or.inl rfl) i1 ?_
  refine wp_topH (fun h2 e3 => ?_)
  have hb := hb h2 e3
  refine wp_iconst (v := 1) dX7_awaits_5 (by decide) ?_
  exact wp_zret rfl dX7_awaits_6 (Or.inr rfl) ⟨_, rfl, hb⟩
theorem c_X7_awaits {l : Launch} {g : AG} {h : AH} {x0 : Nat} {x1 : Int32}  {Q : Int32 → AH → Prop} (hb : L_X7_awaits_0 l g h x0 x1  Q) : C_X7_awaits l g h x0 x1  Q := ax_met rfl (Nat.le_of_ble_eq_true rfl) hb
def C_X7_takeTop (l : Launch) (g : AG) (h : AH) (x0 : Nat)  (Q : Int32 → AH → Prop) : Prop := Ct l g mX7_takeTop 5 142 194 194 h [.ref x0] (ax_QI Q)
def L_X7_takeTop_0 (l : Launch) (g : AG) (h : AH) (x0 : Nat)  (Q : Int32 → AH → Prop) : Prop := Wp l g mX7_takeTop 5 142 194 194 194 0 [(0, .ref x0)] [] h (FM g 194 194 (ax_QI Q))
def L_X7_takeTop_86 (l : Launch) (g : AG) (h : AH) (x0 : Nat)  (Q : Int32 → AH → Prop) : Prop := Wp l g mX7_takeTop 5 142 194 194 194 86 [(0, .ref x0)] [] h (FM g 194 194 (ax_QI Q))
set_option maxRecDepth 100000 in
set_option maxHeartbeats 4000000 in
theorem s_X7_takeTop_0 {l : Launch} {g : AG} {h : AH} {x0 : Nat}  {Q : Int32 → AH → Prop} (hb : (Is 194 x0 6) ∧ ( (Is 194 (h.2.2 x0 0) 7) ∧ ( C_X8_says l g h (h.2.2 x0 0) 1013 (fun r5 h4 => ( ((r5 = 0 → ((Is 194 (h4.2.2 x0 0) 7) ∧ ( C_X8_says l g h4 (h4.2.2 x0 0) 1008 (fun r10 h9 => ( (r10 = 0 ∨ r10 = 1) ∧ ( ∀ h12 : AH, h12 = ax_setI h9 x0 6 r10 → ( (Is 194 (h12.2.2 x0 1) 0) ∧ ( ((0 < h12.1 (h12.2.2 x0 1) 0 → (C_X7_faulty l g h12 x0 1 (fun r18 h17 => ( (r18 = 0 ∨ r18 = 1) ∧ ( Q r18 h17))))) ∧ (¬ (0 < h12.1 (h12.2.2 x0 1) 0) → (((¬ h12.1 x0 6 = 0 → (L_X7_takeTop_86 l g h12 x0  Q)) ∧ (h12.1 x0 6 = 0 → ((Is 194 (h12.2.2 x0 0) 7) ∧ ( C_X8_says l g h12 (h12.2.2 x0 0) 1012 (fun r24 h23 => ( ((¬ r24 = 0 → (L_X7_takeTop_86 l g h23 x0  Q)) ∧ (r24 = 0 → (C_X7_faulty l g h23 x0 1 (fun r28 h27 => ( (r28 = 0 ∨ r28 = 1) ∧ ( Q r28 h27))))))))))))))))))))))) ∧ (¬ (r5 = 0) → ((Is 194 (h4.2.2 x0 1) 0) ∧ ( ((8 ≤ h4.1 (h4.2.2 x0 1) 0 → (C_X7_faulty l g h4 x0 5 (fun r34 h33 => ( (r34 = 0 ∨ r34 = 1) ∧ ( Q r34 h33))))) ∧ (¬ (8 ≤ h4.1 (h4.2.2 x0 1) 0) → (C_X7_awaits l g h4 x0 4 (fun r38 h37 => ( (r38 = 0 ∨ r38 = 1) ∧ ( Q r38 h37))))))))))))))) : L_X7_takeTop_0 l g h x0  Q := by
  obtain ⟨i1, hb⟩ := hb
  refine wp_aload_n 0 dX7_takeTop_0 rfl rfl ?_
  obtain ⟨i2, hb⟩ := hb
  refine wp_getR dX7_takeTop_1 fl_X7_12 i1 (i2.ne (by decide)) ?_
  refine wp_ldcS (q := ("WindowHouse$Reader", 175, "window", 13)) dX7_takeTop_4 (by decide +kernel) rfl rfl ?_
  refine wp_callVN (as := [.ref 1013]) dX7_takeTop_6 cb_X8_says lk_X7_127 im_X8_says se_X8_says rfl (Nat.le_of_ble_eq_true rfl) ⟨by decide, by decide⟩ ⟨Nat.le_refl _, Nat.le_refl _, Nat.le_refl _⟩ i2 rfl (by decide) hb (fun r0 h4 hb => ?_)
  obtain ⟨r5, rfl, hb⟩ := hb
  refine wp_if_eq (tgt := 38) dX7_takeTop_9 (by decide) (fun c6 => ?_) (fun c6 => ?_)
  · have hb := hb.1 c6
    refine wp_aload_n 0 dX7_takeTop_38 rfl rfl ?_
    refine wp_aload_n 0 dX7_takeTop_39 rfl rfl ?_
    obtain ⟨i7, hb⟩ := hb
    refine wp_getR dX7_takeTop_40 fl_X7_12 i1 (i7.ne (by decide)) ?_
    refine wp_ldcS (q := ("WindowHouse$Reader", 177, "kept", 8)) dX7_takeTop_43 (by decide +kernel) rfl rfl ?_
    refine wp_callVN (as := [.ref 1008]) dX7_takeTop_45 cb_X8_says lk_X7_127 im_X8_says se_X8_says rfl (Nat.le_of_ble_eq_true rfl) ⟨by decide, by decide⟩ ⟨Nat.le_refl _, Nat.le_refl _, Nat.le_refl _⟩ i7 rfl (by decide) hb (fun r0 h9 hb => ?_)
    obtain ⟨r10, rfl, hb⟩ := hb
    obtain ⟨q11, hb⟩ := hb
    refine wp_putZ dX7_takeTop_48 fl_X7_32 (Or.inl rfl) i1 q11 ?_
    refine wp_topH (fun h12 e13 => ?_)
    have hb := hb h12 e13
    refine wp_aload_n 0 dX7_takeTop_51 rfl rfl ?_
    obtain ⟨i14, hb⟩ := hb
    refine wp_getR dX7_takeTop_52 fl_X7_64 i1 (i14.ne (by decide)) ?_
    refine wp_getI dX7_takeTop_55 fl_X7_83 i14 ?_
    refine wp_if_gt (tgt := 80) dX7_takeTop_58 (by decide) (fun c15 => ?_) (fun c15 => ?_)
    · have hb := hb.1 c15
      refine wp_aload_n 0 dX7_takeTop_80 rfl rfl ?_
      refine wp_iconst (v := 1) dX7_takeTop_81 (by decide) ?_
      refine wp_callV (as := [.int 1]) dX7_takeTop_82 cb_X7_faulty lk_X7_90 im_X7_faulty se_X7_faulty rfl (Nat.le_of_ble_eq_true rfl) ⟨by decide, by decide⟩ ⟨Nat.le_refl _, Nat.le_refl _, Nat.le_refl _⟩ i1 rfl (by decide) hb (fun r0 h17 hb => ?_)
      obtain ⟨r18, rfl, hb⟩ := hb
      obtain ⟨q19, hb⟩ := hb
      exact wp_zret rfl dX7_takeTop_85 q19 ⟨_, rfl, hb⟩
    · have hb := hb.2 c15
      refine wp_aload_n 0 dX7_takeTop_61 rfl rfl ?_
      refine wp_getZ dX7_takeTop_62 fl_X7_32 i1 ?_
      refine wp_if_ne (tgt := 86) dX7_takeTop_65 (by decide) (fun c20 => ?_) (fun c20 => ?_)
      · have hb := hb.1 c20
        exact hb
      · have hb := hb.2 c20
        refine wp_aload_n 0 dX7_takeTop_68 rfl rfl ?_
        obtain ⟨i21, hb⟩ := hb
        refine wp_getR dX7_takeTop_69 fl_X7_12 i1 (i21.ne (by decide)) ?_
        refine wp_ldcS (q := ("WindowHouse$Reader", 178, "var", 12)) dX7_takeTop_72 (by decide +kernel) rfl rfl ?_
        refine wp_callVN (as := [.ref 1012]) dX7_takeTop_74 cb_X8_says lk_X7_127 im_X8_says se_X8_says rfl (Nat.le_of_ble_eq_true rfl) ⟨by decide, by decide⟩ ⟨Nat.le_refl _, Nat.le_refl _, Nat.le_refl _⟩ i21 rfl (by decide) hb (fun r0 h23 hb => ?_)
        obtain ⟨r24, rfl, hb⟩ := hb
        refine wp_if_ne (tgt := 86) dX7_takeTop_77 (by decide) (fun c25 => ?_) (fun c25 => ?_)
        · have hb := hb.1 c25
          exact hb
        · have hb := hb.2 c25
          refine wp_aload_n 0 dX7_takeTop_80 rfl rfl ?_
          refine wp_iconst (v := 1) dX7_takeTop_81 (by decide) ?_
          refine wp_callV (as := [.int 1]) dX7_takeTop_82 cb_X7_faulty lk_X7_90 im_X7_faulty se_X7_faulty rfl (Nat.le_of_ble_eq_true rfl) ⟨by decide, by decide⟩ ⟨Nat.le_refl _, Nat.le_refl _, Nat.le_refl _⟩ i1 rfl (by decide) hb (fun r0 h27 hb => ?_)
          obtain ⟨r28, rfl, hb⟩ := hb
          obtain ⟨q29, hb⟩ := hb
          exact wp_zret rfl dX7_takeTop_85 q29 ⟨_, rfl, hb⟩
  · have hb := hb.2 c6
    refine wp_aload_n 0 dX7_takeTop_12 rfl rfl ?_
    obtain ⟨i30, hb⟩ := hb
    refine wp_getR dX7_takeTop_13 fl_X7_64 i1 (i30.ne (by decide)) ?_
    refine wp_getI dX7_takeTop_16 fl_X7_83 i30 ?_
    refine wp_bipush (v := 8) dX7_takeTop_19 (by decide) ?_
    refine wp_icmp_ge (tgt := 32) dX7_takeTop_21 (by decide) (fun c31 => ?_) (fun c31 => ?_)
    · have hb := hb.1 c31
      refine wp_aload_n 0 dX7_takeTop_32 rfl rfl ?_
      refine wp_iconst (v := 5) dX7_takeTop_33 (by decide) ?_
      refine wp_callV (as := [.int 5]) dX7_takeTop_34 cb_X7_faulty lk_X7_90 im_X7_faulty se_X7_faulty rfl (Nat.le_of_ble_eq_true rfl) ⟨by decide, by decide⟩ ⟨Nat.le_refl _, Nat.le_refl _, Nat.le_refl _⟩ i1 rfl (by decide) hb (fun r0 h33 hb => ?_)
      obtain ⟨r34, rfl, hb⟩ := hb
      obtain ⟨q35, hb⟩ := hb
      exact wp_zret rfl dX7_takeTop_37 q35 ⟨_, rfl, hb⟩
    · have hb := hb.2 c31
      refine wp_aload_n 0 dX7_takeTop_24 rfl rfl ?_
      refine wp_iconst (v := 4) dX7_takeTop_25 (by decide) ?_
      refine wp_callV (as := [.int 4]) dX7_takeTop_26 cb_X7_awaits lk_X7_131 im_X7_awaits se_X7_awaits rfl (Nat.le_of_ble_eq_true rfl) ⟨by decide, by decide⟩ ⟨Nat.le_refl _, Nat.le_refl _, Nat.le_refl _⟩ i1 rfl (by decide) hb (fun r0 h37 hb => ?_)
      obtain ⟨r38, rfl, hb⟩ := hb
      refine wp_goto (tgt := 37) dX7_takeTop_29 (by decide) ?_
      obtain ⟨q39, hb⟩ := hb
      exact wp_zret rfl dX7_takeTop_37 q39 ⟨_, rfl, hb⟩
set_option maxRecDepth 100000 in
set_option maxHeartbeats 4000000 in
theorem s_X7_takeTop_86 {l : Launch} {g : AG} {h : AH} {x0 : Nat}  {Q : Int32 → AH → Prop} (hb : (Is 194 x0 6) ∧ ( (Is 194 (h.2.2 x0 1) 0) ∧ ( ((6 ≤ h.1 (h.2.2 x0 1) 2 → (C_X7_faulty l g h x0 5 (fun r45 h44 => ( (r45 = 0 ∨ r45 = 1) ∧ ( Q r45 h44))))) ∧ (¬ (6 ≤ h.1 (h.2.2 x0 1) 2) → (C_X7_awaits l g h x0 1 (fun r49 h48 => ( (r49 = 0 ∨ r49 = 1) ∧ ( Q r49 h48))))))))) : L_X7_takeTop_86 l g h x0  Q := by
  obtain ⟨i40, hb⟩ := hb
  refine wp_aload_n 0 dX7_takeTop_86 rfl rfl ?_
  obtain ⟨i41, hb⟩ := hb
  refine wp_getR dX7_takeTop_87 fl_X7_64 i40 (i41.ne (by decide)) ?_
  refine wp_getI dX7_takeTop_90 fl_X7_180 i41 ?_
  refine wp_bipush (v := 6) dX7_takeTop_93 (by decide) ?_
  refine wp_icmp_ge (tgt := 106) dX7_takeTop_95 (by decide) (fun c42 => ?_) (fun c42 => ?_)
  · have hb := hb.1 c42
    refine wp_aload_n 0 dX7_takeTop_106 rfl rfl ?_
    refine wp_iconst (v := 5) dX7_takeTop_107 (by decide) ?_
    refine wp_callV (as := [.int 5]) dX7_takeTop_108 cb_X7_faulty lk_X7_90 im_X7_faulty se_X7_faulty rfl (Nat.le_of_ble_eq_true rfl) ⟨by decide, by decide⟩ ⟨Nat.le_refl _, Nat.le_refl _, Nat.le_refl _⟩ i40 rfl (by decide) hb (fun r0 h44 hb => ?_)
    obtain ⟨r45, rfl, hb⟩ := hb
    obtain ⟨q46, hb⟩ := hb
    exact wp_zret rfl dX7_takeTop_111 q46 ⟨_, rfl, hb⟩
  · have hb := hb.2 c42
    refine wp_aload_n 0 dX7_takeTop_98 rfl rfl ?_
    refine wp_iconst (v := 1) dX7_takeTop_99 (by decide) ?_
    refine wp_callV (as := [.int 1]) dX7_takeTop_100 cb_X7_awaits lk_X7_131 im_X7_awaits se_X7_awaits rfl (Nat.le_of_ble_eq_true rfl) ⟨by decide, by decide⟩ ⟨Nat.le_refl _, Nat.le_refl _, Nat.le_refl _⟩ i40 rfl (by decide) hb (fun r0 h48 hb => ?_)
    obtain ⟨r49, rfl, hb⟩ := hb
    refine wp_goto (tgt := 111) dX7_takeTop_103 (by decide) ?_
    obtain ⟨q50, hb⟩ := hb
    exact wp_zret rfl dX7_takeTop_111 q50 ⟨_, rfl, hb⟩
theorem c_X7_takeTop {l : Launch} {g : AG} {h : AH} {x0 : Nat}  {Q : Int32 → AH → Prop} (hb : L_X7_takeTop_0 l g h x0  Q) : C_X7_takeTop l g h x0  Q := ax_met rfl (Nat.le_of_ble_eq_true rfl) hb
