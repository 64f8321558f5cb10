def C_X12_rowTo (l : Launch) (g : AG) (h : AH) (x0 : Nat) (x1 : Int32)  (Q : Int32 → AH → Prop) : Prop := Ct l g mX12_rowTo 1 21 194 194 h [.ref x0, .int x1] (ax_QI Q)
def L_X12_rowTo_0 (l : Launch) (g : AG) (h : AH) (x0 : Nat) (x1 : Int32)  (Q : Int32 → AH → Prop) : Prop := Wp l g mX12_rowTo 1 21 194 194 194 0 [(0, .ref x0), (1, .int x1)] [] h (FM g 194 194 (ax_QI Q))
def L_X12_rowTo_53 (l : Launch) (g : AG) (h : AH) (x0 : Nat) (x2 : Int32) (x3 : Int32)  (Q : Int32 → AH → Prop) : Prop := Wp l g mX12_rowTo 1 21 194 194 194 53 [(0, .ref x0), (2, .int x2), (3, .int x3)] [] h (FM g 194 194 (ax_QI Q))
set_option maxRecDepth 100000 in
set_option maxHeartbeats 4000000 in
theorem s_X12_rowTo_0 {l : Launch} {g : AG} {h : AH} {x0 : Nat} {x1 : Int32}  {Q : Int32 → AH → Prop} (hb : (Is 194 x0 11) ∧ ( ∀ h2 : AH, h2 = ax_setI h x0 0 0 → ( ((¬ h2.1 x0 24 = (-1) → (C_X12_isState l g h2 x0 x1 (fun r7 h6 => ( ((¬ r7 = 0 → ((Is 194 (h6.2.2 x0 30) 20) ∧ ( (vp_in x1 (ax_s (h6.2.2 x0 30)).2) ∧ ( ∀ h11 : AH, h11 = ax_setI h6 x0 40 (h6.1 (h6.2.2 x0 30) x1.toNatClampNeg) → ( ∀ v13 : Int32, v13 = ((h11.1 x0 40) - 1) → ( L_X12_rowTo_53 l g h11 x0 x1 v13  Q)))))) ∧ (r7 = 0 → (C_X12_refused l g h6 x0 1 (fun r17 h16 => ( Q r17 h16))))))))) ∧ (h2.1 x0 24 = (-1) → (C_X12_refused l g h2 x0 6 (fun r20 h19 => ( Q r20 h19)))))))) : L_X12_rowTo_0 l g h x0 x1  Q := by
  obtain ⟨i1, hb⟩ := hb
  refine wp_aload_n 0 dX12_rowTo_0 rfl rfl ?_
  refine wp_iconst (v := 0) dX12_rowTo_1 (by decide) ?_
  refine wp_putI dX12_rowTo_2 fl_X12_1 (Or.inl rfl) i1 ?_
  refine wp_topH (fun h2 e3 => ?_)
  have hb := hb h2 e3
  refine wp_aload_n 0 dX12_rowTo_5 rfl rfl ?_
  refine wp_getI dX12_rowTo_6 fl_X12_62 i1 ?_
  refine wp_iconst (v := (-1)) dX12_rowTo_9 (by decide) ?_
  refine wp_icmp_ne (tgt := 20) dX12_rowTo_10 (by decide) (fun c4 => ?_) (fun c4 => ?_)
  · have hb := hb.1 c4
    refine wp_aload_n 0 dX12_rowTo_20 rfl rfl ?_
    refine wp_iload_n 1 dX12_rowTo_21 rfl rfl ?_
    refine wp_callV (as := [.int x1]) dX12_rowTo_22 cb_X12_isState lk_X12_412 im_X12_isState se_X12_isState rfl (Nat.le_of_ble_eq_true rfl) ⟨by decide, by decide⟩ ⟨Nat.le_refl _, Nat.le_refl _, Nat.le_refl _⟩ i1 rfl (by decide) hb (fun r0 h6 hb => ?_)
    obtain ⟨r7, rfl, hb⟩ := hb
    refine wp_if_ne (tgt := 34) dX12_rowTo_25 (by decide) (fun c8 => ?_) (fun c8 => ?_)
    · have hb := hb.1 c8
      refine wp_aload_n 0 dX12_rowTo_34 rfl rfl ?_
      refine wp_aload_n 0 dX12_rowTo_35 rfl rfl ?_
      obtain ⟨i9, hb⟩ := hb
      refine wp_getR dX12_rowTo_36 fl_X12_77 i1 (i9.ne (by decide)) ?_
      refine wp_iload_n 1 dX12_rowTo_39 rfl rfl ?_
      obtain ⟨b10, hb⟩ := hb
      refine wp_iaload dX12_rowTo_40 i9 b10 ?_
      refine wp_putI dX12_rowTo_41 fl_X12_415 (Or.inl rfl) i1 ?_
      refine wp_topH (fun h11 e12 => ?_)
      have hb := hb h11 e12
      refine wp_iload_n 1 dX12_rowTo_44 rfl rfl ?_
      refine wp_istore_n (lv2 := [(2, .int x1), (0, .ref x0), (1, .int x1)]) dX12_rowTo_45 rfl (by decide) rfl ?_
      refine wp_aload_n 1 dX12_rowTo_46 rfl rfl ?_
      refine wp_getI dX12_rowTo_47 fl_X12_415 i1 ?_
      refine wp_iconst (v := 1) dX12_rowTo_50 (by decide) ?_
      refine wp_isub dX12_rowTo_51 ?_
      refine wp_topi (fun v13 e14 => ?_)
      have hb := hb v13 e14
      refine wp_istore_n (lv2 := [(3, .int v13), (2, .int x1), (0, .ref x0), (1, .int x1)]) dX12_rowTo_52 rfl (by decide) rfl ?_
      exact wp_sub [2, 1, 0] rfl hb
    · have hb := hb.2 c8
      refine wp_aload_n 0 dX12_rowTo_28 rfl rfl ?_
      refine wp_iconst (v := 1) dX12_rowTo_29 (by decide) ?_
      refine wp_callV (as := [.int 1]) dX12_rowTo_30 cb_X12_refused lk_X12_316 im_X12_refused se_X12_refused rfl (Nat.le_of_ble_eq_true rfl) ⟨by decide, by decide⟩ ⟨Nat.le_refl _, Nat.le_refl _, Nat.le_refl _⟩ i1 rfl (by decide) hb (fun r0 h16 hb => ?_)
      obtain ⟨r17, rfl, hb⟩ := hb
      exact wp_iret rfl dX12_rowTo_33 ⟨_, rfl, hb⟩
  · have hb := hb.2 c4
    refine wp_aload_n 0 dX12_rowTo_13 rfl rfl ?_
    refine wp_bipush (v := 6) dX12_rowTo_14 (by decide) ?_
    refine wp_callV (as := [.int 6]) dX12_rowTo_16 cb_X12_refused lk_X12_316 im_X12_refused se_X12_refused rfl (Nat.le_of_ble_eq_true rfl) ⟨by decide, by decide⟩ ⟨Nat.le_refl _, Nat.le_refl _, Nat.le_refl _⟩ i1 rfl (by decide) hb (fun r0 h19 hb => ?_)
    obtain ⟨r20, rfl, hb⟩ := hb
    exact wp_iret rfl dX12_rowTo_19 ⟨_, rfl, hb⟩
set_option maxRecDepth 100000 in
set_option maxHeartbeats 4000000 in
theorem s_X12_rowTo_53 {l : Launch} {g : AG} {h : AH} {x0 : Nat} {x2 : Int32} {x3 : Int32}  {Q : Int32 → AH → Prop} (hb : ((x3 < 0 → ((Is 194 x0 11) ∧ ( C_X12_done l g h x0 (h.1 x0 40) (fun r25 h24 => ( Q r25 h24))))) ∧ (¬ (x3 < 0) → ((Is 194 x0 11) ∧ ( (Is 194 (h.2.2 x0 39) 20) ∧ ( (Is 194 (h.2.2 x0 29) 20) ∧ ( (vp_in x2 (ax_s (h.2.2 x0 29)).2) ∧ ( (vp_in x3 (ax_s (h.2.2 x0 39)).2) ∧ ( ∀ h31 : AH, h31 = ax_setI h (h.2.2 x0 39) x3.toNatClampNeg (h.1 (h.2.2 x0 29) x2.toNatClampNeg) → ( (Is 194 (h31.2.2 x0 28) 20) ∧ ( (vp_in x2 (ax_s (h31.2.2 x0 28)).2) ∧ ( ∀ v35 : Int32, v35 = (h31.1 (h31.2.2 x0 28) x2.toNatClampNeg) → ( ∀ v37 : Int32, v37 = x3 + (-1) → ( L_X12_rowTo_53 l g h31 x0 v35 v37  Q)))))))))))))) : L_X12_rowTo_53 l g h x0 x2 x3  Q := by
  refine wp_iload_n 2 dX12_rowTo_53 rfl rfl ?_
  refine wp_if_lt (tgt := 82) dX12_rowTo_54 (by decide) (fun c21 => ?_) (fun c21 => ?_)
  · have hb := hb.1 c21
    obtain ⟨i22, hb⟩ := hb
    refine wp_aload_n 0 dX12_rowTo_82 rfl rfl ?_
    refine wp_aload_n 0 dX12_rowTo_83 rfl rfl ?_
    refine wp_getI dX12_rowTo_84 fl_X12_415 i22 ?_
    refine wp_callV (as := [.int (h.1 x0 40)]) dX12_rowTo_87 cb_X12_done lk_X12_337 im_X12_done se_X12_done rfl (Nat.le_of_ble_eq_true rfl) ⟨by decide, by decide⟩ ⟨Nat.le_refl _, Nat.le_refl _, Nat.le_refl _⟩ i22 rfl (by decide) hb (fun r0 h24 hb => ?_)
    obtain ⟨r25, rfl, hb⟩ := hb
    exact wp_iret rfl dX12_rowTo_90 ⟨_, rfl, hb⟩
  · have hb := hb.2 c21
    obtain ⟨i26, hb⟩ := hb
    refine wp_aload_n 0 dX12_rowTo_57 rfl rfl ?_
    obtain ⟨i27, hb⟩ := hb
    refine wp_getR dX12_rowTo_58 fl_X12_101 i26 (i27.ne (by decide)) ?_
    refine wp_iload_n 2 dX12_rowTo_61 rfl rfl ?_
    refine wp_aload_n 0 dX12_rowTo_62 rfl rfl ?_
    obtain ⟨i28, hb⟩ := hb
    refine wp_getR dX12_rowTo_63 fl_X12_74 i26 (i28.ne (by decide)) ?_
    refine wp_iload_n 1 dX12_rowTo_66 rfl rfl ?_
    obtain ⟨b29, hb⟩ := hb
    refine wp_iaload dX12_rowTo_67 i28 b29 ?_
    obtain ⟨b30, hb⟩ := hb
    refine wp_iastore dX12_rowTo_68 i27 b30 ?_
    refine wp_topH (fun h31 e32 => ?_)
    have hb := hb h31 e32
    refine wp_aload_n 0 dX12_rowTo_69 rfl rfl ?_
    obtain ⟨i33, hb⟩ := hb
    refine wp_getR dX12_rowTo_70 fl_X12_71 i26 (i33.ne (by decide)) ?_
    refine wp_iload_n 1 dX12_rowTo_73 rfl rfl ?_
    obtain ⟨b34, hb⟩ := hb
    refine wp_iaload dX12_rowTo_74 i33 b34 ?_
    refine wp_topi (fun v35 e36 => ?_)
    have hb := hb v35 e36
    refine wp_istore_n (lv2 := [(2, .int v35), (0, .ref x0), (3, .int x3)]) dX12_rowTo_75 rfl (by decide) rfl ?_
    obtain ⟨v37, e38⟩ : ∃ y : Int32, y = x3 + (-1) := ⟨_, rfl⟩
    have hb := hb v37 e38
    refine wp_iinc (v := v37) (lv2 := [(3, .int v37), (2, .int v35), (0, .ref x0)]) 2 dX12_rowTo_76 rfl (by rw [e38]; rfl) (by decide) rfl ?_
    refine wp_goto (tgt := 53) dX12_rowTo_79 (by decide) ?_
    exact wp_sub [2, 1, 0] rfl hb
theorem c_X12_rowTo {l : Launch} {g : AG} {h : AH} {x0 : Nat} {x1 : Int32}  {Q : Int32 → AH → Prop} (hb : L_X12_rowTo_0 l g h x0 x1  Q) : C_X12_rowTo l g h x0 x1  Q := ax_met rfl (Nat.le_of_ble_eq_true rfl) hb
def C_X12_faultAt (l : Launch) (g : AG) (h : AH) (x0 : Nat) (x1 : Int32)  (Q : Int32 → AH → Prop) : Prop := Ct l g mX12_faultAt 1 21 194 194 h [.ref x0, .int x1] (ax_QI Q)
def L_X12_faultAt_0 (l : Launch) (g : AG) (h : AH) (x0 : Nat) (x1 : Int32)  (Q : Int32 → AH → Prop) : Prop := Wp l g mX12_faultAt 1 21 194 194 194 0 [(0, .ref x0), (1, .int x1)] [] h (FM g 194 194 (ax_QI Q))
def L_X12_faultAt_39 (l : Launch) (g : AG) (h : AH) (x0 : Nat) (x1 : Int32) (x2 : Int32)  (Q : Int32 → AH → Prop) : Prop := Wp l g mX12_faultAt 1 21 194 194 194 39 [(0, .ref x0), (1, .int x1), (2, .int x2)] [] h (FM g 194 194 (ax_QI Q))
def L_X12_faultAt_67 (l : Launch) (g : AG) (h : AH) (x0 : Nat) (x2 : Int32)  (Q : Int32 → AH → Prop) : Prop := Wp l g mX12_faultAt 1 21 194 194 194 67 [(0, .ref x0), (2, .int x2)] [] h (FM g 194 194 (ax_QI Q))
set_option maxRecDepth 100000 in
set_option maxHeartbeats 4000000 in
theorem s_X12_faultAt_0 {l : Launch} {g : AG} {h : AH} {x0 : Nat} {x1 : Int32}  {Q : Int32 → AH → Prop} (hb : (Is 194 x0 11) ∧ ( ∀ h2 : AH, h2 = ax_setI h x0 0 0 → ( ((¬ h2.1 x0 24 = (-1) → (((x1 < 1 → (C_X12_refused l g h2 x0 2 (fun r8 h7 => ( Q r8 h7)))) ∧ (¬ (x1 < 1) → (((x1 ≤ 20 → (L_X12_faultAt_39 l g h2 x0 x1 0  Q)) ∧ (¬ (x1 ≤ 20) → (C_X12_refused l g h2 x0 2 (fun r12 h11 => ( Q r12 h11)))))))))) ∧ (h2.1 x0 24 = (-1) → (C_X12_refused l g h2 x0 6 (fun r15 h14 => ( Q r15 h14)))))))) : L_X12_faultAt_0 l g h x0 x1  Q := by
  obtain ⟨i1, hb⟩ := hb
  refine wp_aload_n 0 dX12_faultAt_0 rfl rfl ?_
  refine wp_iconst (v := 0) dX12_faultAt_1 (by decide) ?_
  refine wp_putI dX12_faultAt_2 fl_X12_1 (Or.inl rfl) i1 ?_
  refine wp_topH (fun h2 e3 => ?_)
  have hb := hb h2 e3
  refine wp_aload_n 0 dX12_faultAt_5 rfl rfl ?_
  refine wp_getI dX12_faultAt_6 fl_X12_62 i1 ?_
  refine wp_iconst (v := (-1)) dX12_faultAt_9 (by decide) ?_
  refine wp_icmp_ne (tgt := 20) dX12_faultAt_10 (by decide) (fun c4 => ?_) (fun c4 => ?_)
  · have hb := hb.1 c4
    refine wp_iload_n 1 dX12_faultAt_20 rfl rfl ?_
    refine wp_iconst (v := 1) dX12_faultAt_21 (by decide) ?_
    refine wp_icmp_lt (tgt := 31) dX12_faultAt_22 (by decide) (fun c5 => ?_) (fun c5 => ?_)
    · have hb := hb.1 c5
      refine wp_aload_n 0 dX12_faultAt_31 rfl rfl ?_
      refine wp_iconst (v := 2) dX12_faultAt_32 (by decide) ?_
      refine wp_callV (as := [.int 2]) dX12_faultAt_33 cb_X12_refused lk_X12_316 im_X12_refused se_X12_refused rfl (Nat.le_of_ble_eq_true rfl) ⟨by decide, by decide⟩ ⟨Nat.le_refl _, Nat.le_refl _, Nat.le_refl _⟩ i1 rfl (by decide) hb (fun r0 h7 hb => ?_)
      obtain ⟨r8, rfl, hb⟩ := hb
      exact wp_iret rfl dX12_faultAt_36 ⟨_, rfl, hb⟩
    · have hb := hb.2 c5
      refine wp_iload_n 1 dX12_faultAt_25 rfl rfl ?_
      refine wp_bipush (v := 20) dX12_faultAt_26 (by decide) ?_
      refine wp_icmp_le (tgt := 37) dX12_faultAt_28 (by decide) (fun c9 => ?_) (fun c9 => ?_)
      · have hb := hb.1 c9
        refine wp_iconst (v := 0) dX12_faultAt_37 (by decide) ?_
        refine wp_istore_n (lv2 := [(2, .int 0), (0, .ref x0), (1, .int x1)]) dX12_faultAt_38 rfl (by decide) rfl ?_
        exact wp_sub [1, 2, 0] rfl hb
      · have hb := hb.2 c9
        refine wp_aload_n 0 dX12_faultAt_31 rfl rfl ?_
        refine wp_iconst (v := 2) dX12_faultAt_32 (by decide) ?_
        refine wp_callV (as := [.int 2]) dX12_faultAt_33 cb_X12_refused lk_X12_316 im_X12_refused se_X12_refused rfl (Nat.le_of_ble_eq_true rfl) ⟨by decide, by decide⟩ ⟨Nat.le_refl _, Nat.le_refl _, Nat.le_refl _⟩ i1 rfl (by decide) hb (fun r0 h11 hb => ?_)
        obtain ⟨r12, rfl, hb⟩ := hb
        exact wp_iret rfl dX12_faultAt_36 ⟨_, rfl, hb⟩
  · have hb := hb.2 c4
    refine wp_aload_n 0 dX12_faultAt_13 rfl rfl ?_
    refine wp_bipush (v := 6) dX12_faultAt_14 (by decide) ?_
    refine wp_callV (as := [.int 6]) dX12_faultAt_16 cb_X12_refused lk_X12_316 im_X12_refused se_X12_refused rfl (Nat.le_of_ble_eq_true rfl) ⟨by decide, by decide⟩ ⟨Nat.le_refl _, Nat.le_refl _, Nat.le_refl _⟩ i1 rfl (by decide) hb (fun r0 h14 hb => ?_)
    obtain ⟨r15, rfl, hb⟩ := hb
    exact wp_iret rfl dX12_faultAt_19 ⟨_, rfl, hb⟩
set_option maxRecDepth 100000 in
set_option maxHeartbeats 4000000 in
theorem s_X12_faultAt_39 {l : Launch} {g : AG} {h : AH} {x0 : Nat} {x1 : Int32} {x2 : Int32}  {Q : Int32 → AH → Prop} (hb : (Is 194 x0 11) ∧ ( ((h.1 x0 25 ≤ x2 → (L_X12_faultAt_67 l g h x0 x2  Q)) ∧ (¬ (h.1 x0 25 ≤ x2) → ((Is 194 (h.2.2 x0 26) 21) ∧ ( (vp_in x2 (ax_s (h.2.2 x0 26)).2) ∧ ( (((jlshr (h.2.1 (h.2.2 x0 26) x2.toNatClampNeg) 38).toInt32 = x1 → (L_X12_faultAt_67 l g h x0 x2  Q)) ∧ (¬ ((jlshr (h.2.1 (h.2.2 x0 26) x2.toNatClampNeg) 38).toInt32 = x1) → (∀ v21 : Int32, v21 = x2 + (1) → ( L_X12_faultAt_39 l g h x0 x1 v21  Q))))))))))) : L_X12_faultAt_39 l g h x0 x1 x2  Q := by
  refine wp_iload_n 2 dX12_faultAt_39 rfl rfl ?_
  obtain ⟨i16, hb⟩ := hb
  refine wp_aload_n 0 dX12_faultAt_40 rfl rfl ?_
  refine wp_getI dX12_faultAt_41 fl_X12_334 i16 ?_
  refine wp_icmp_ge (tgt := 67) dX12_faultAt_44 (by decide) (fun c17 => ?_) (fun c17 => ?_)
  · have hb := hb.1 c17
    exact wp_sub [0, 2] rfl hb
  · have hb := hb.2 c17
    refine wp_aload_n 0 dX12_faultAt_47 rfl rfl ?_
    obtain ⟨i18, hb⟩ := hb
    refine wp_getR dX12_faultAt_48 fl_X12_65 i16 (i18.ne (by decide)) ?_
    refine wp_iload_n 2 dX12_faultAt_51 rfl rfl ?_
    obtain ⟨b19, hb⟩ := hb
    refine wp_laload dX12_faultAt_52 i18 b19 ?_
    refine wp_bipush (v := 38) dX12_faultAt_53 (by decide) ?_
    refine wp_lshr dX12_faultAt_55 ?_
    refine wp_l2i dX12_faultAt_56 ?_
    refine wp_iload_n 1 dX12_faultAt_57 rfl rfl ?_
    refine wp_icmp_eq (tgt := 67) dX12_faultAt_58 (by decide) (fun c20 => ?_) (fun c20 => ?_)
    · have hb := hb.1 c20
      exact wp_sub [0, 2] rfl hb
    · have hb := hb.2 c20
      obtain ⟨v21, e22⟩ : ∃ y : Int32, y = x2 + (1) := ⟨_, rfl⟩
      have hb := hb v21 e22
      refine wp_iinc (v := v21) (lv2 := [(2, .int v21), (0, .ref x0), (1, .int x1)]) 2 dX12_faultAt_61 rfl (by rw [e22]; rfl) (by decide) rfl ?_
      refine wp_goto (tgt := 39) dX12_faultAt_64 (by decide) ?_
      exact wp_sub [1, 2, 0] rfl hb
set_option maxRecDepth 100000 in
set_option maxHeartbeats 4000000 in
theorem s_X12_faultAt_67 {l : Launch} {g : AG} {h : AH} {x0 : Nat} {x2 : Int32}  {Q : Int32 → AH → Prop} (hb : (Is 194 x0 11) ∧ ( ((h.1 x0 25 ≤ x2 → (C_X12_done l g h x0 (-2) (fun r27 h26 => ( Q r27 h26)))) ∧ (¬ (h.1 x0 25 ≤ x2) → (C_X12_done l g h x0 x2 (fun r30 h29 => ( Q r30 h29))))))) : L_X12_faultAt_67 l g h x0 x2  Q := by
  obtain ⟨i23, hb⟩ := hb
  refine wp_aload_n 0 dX12_faultAt_67 rfl rfl ?_
  refine wp_iload_n 1 dX12_faultAt_68 rfl rfl ?_
  refine wp_aload_n 0 dX12_faultAt_69 rfl rfl ?_
  refine wp_getI dX12_faultAt_70 fl_X12_334 i23 ?_
  refine wp_icmp_ge (tgt := 80) dX12_faultAt_73 (by decide) (fun c24 => ?_) (fun c24 => ?_)
  · have hb := hb.1 c24
    refine wp_bipush (v := (-2)) dX12_faultAt_80 (by decide) ?_
    refine wp_callV (as := [.int (-2)]) dX12_faultAt_82 cb_X12_done lk_X12_337 im_X12_done se_X12_done rfl (Nat.le_of_ble_eq_true rfl) ⟨by decide, by decide⟩ ⟨Nat.le_refl _, Nat.le_refl _, Nat.le_refl _⟩ i23 rfl (by decide) hb (fun r0 h26 hb => ?_)
    obtain ⟨r27, rfl, hb⟩ := hb
    exact wp_iret rfl dX12_faultAt_85 ⟨_, rfl, hb⟩
  · have hb := hb.2 c24
    refine wp_iload_n 1 dX12_faultAt_76 rfl rfl ?_
    refine wp_goto (tgt := 82) dX12_faultAt_77 (by decide) ?_
    refine wp_callV (as := [.int x2]) dX12_faultAt_82 cb_X12_done lk_X12_337 im_X12_done se_X12_done rfl (Nat.le_of_ble_eq_true rfl) ⟨by decide, by decide⟩ ⟨Nat.le_refl _, Nat.le_refl _, Nat.le_refl _⟩ i23 rfl (by decide) hb (fun r0 h29 hb => ?_)
    obtain ⟨r30, rfl, hb⟩ := hb
    exact wp_iret rfl dX12_faultAt_85 ⟨_, rfl, hb⟩
theorem c_X12_faultAt {l : Launch} {g : AG} {h : AH} {x0 : Nat} {x1 : Int32}  {Q : Int32 → AH → Prop} (hb : L_X12_faultAt_0 l g h x0 x1  Q) : C_X12_faultAt l g h x0 x1  Q := ax_met rfl (Nat.le_of_ble_eq_true rfl) hb
