def C_X12_meets (l : Launch) (g : AG) (h : AH) (x0 : Nat) (x1 : Int32) (x2 : Int32)  (Q : AH → Prop) : Prop := Ct l g mX12_meets 1 23 194 194 h [.ref x0, .int x1, .int x2] (ax_QV Q)
def L_X12_meets_0 (l : Launch) (g : AG) (h : AH) (x0 : Nat) (x1 : Int32) (x2 : Int32)  (Q : AH → Prop) : Prop := Wp l g mX12_meets 1 23 194 194 194 0 [(0, .ref x0), (1, .int x1), (2, .int x2)] [] h (FM g 194 194 (ax_QV Q))
set_option maxRecDepth 100000 in
set_option maxHeartbeats 4000000 in
theorem s_X12_meets_0 {l : Launch} {g : AG} {h : AH} {x0 : Nat} {x1 : Int32} {x2 : Int32}  {Q : AH → Prop} (hb : (Is 194 x0 11) ∧ ( (Is 194 (h.2.2 x0 26) 21) ∧ ( C_X12_packed l g h x0 (fun r5 h4 => ( (vp_in (h.1 x0 25) (ax_s (h.2.2 x0 26)).2) ∧ ( ∀ h7 : AH, h7 = ax_setL h4 (h.2.2 x0 26) (h.1 x0 25).toNatClampNeg r5 → ( (Is 194 (h7.2.2 x0 27) 21) ∧ ( C_X12_packedVars l g h7 x0 (fun r12 h11 => ( (vp_in (h7.1 x0 25) (ax_s (h7.2.2 x0 27)).2) ∧ ( ∀ h14 : AH, h14 = ax_setL h11 (h7.2.2 x0 27) (h7.1 x0 25).toNatClampNeg r12 → ( (Is 194 (h14.2.2 x0 28) 20) ∧ ( (vp_in (h14.1 x0 25) (ax_s (h14.2.2 x0 28)).2) ∧ ( ∀ h18 : AH, h18 = ax_setI h14 (h14.2.2 x0 28) (h14.1 x0 25).toNatClampNeg x1 → ( (Is 194 (h18.2.2 x0 29) 20) ∧ ( (vp_in (h18.1 x0 25) (ax_s (h18.2.2 x0 29)).2) ∧ ( ∀ h22 : AH, h22 = ax_setI h18 (h18.2.2 x0 29) (h18.1 x0 25).toNatClampNeg x2 → ( (Is 194 (h22.2.2 x0 30) 20) ∧ ( ((¬ x1 = (-1) → ((Is 194 (h22.2.2 x0 30) 20) ∧ ( (vp_in x1 (ax_s (h22.2.2 x0 30)).2) ∧ ( (vp_in (h22.1 x0 25) (ax_s (h22.2.2 x0 30)).2) ∧ ( ∀ h29 : AH, h29 = ax_setI h22 (h22.2.2 x0 30) (h22.1 x0 25).toNatClampNeg ((h22.1 (h22.2.2 x0 30) x1.toNatClampNeg) + 1) → ( ∀ h31 : AH, h31 = ax_setI h29 x0 25 ((h29.1 x0 25) + 1) → ( Q h31))))))) ∧ (x1 = (-1) → ((vp_in (h22.1 x0 25) (ax_s (h22.2.2 x0 30)).2) ∧ ( ∀ h34 : AH, h34 = ax_setI h22 (h22.2.2 x0 30) (h22.1 x0 25).toNatClampNeg 0 → ( ∀ h36 : AH, h36 = ax_setI h34 x0 25 ((h34.1 x0 25) + 1) → ( Q h36))))))))))))))))))))))))) : L_X12_meets_0 l g h x0 x1 x2  Q := by
  obtain ⟨i1, hb⟩ := hb
  refine wp_aload_n 0 dX12_meets_0 rfl rfl ?_
  obtain ⟨i2, hb⟩ := hb
  refine wp_getR dX12_meets_1 fl_X12_65 i1 (i2.ne (by decide)) ?_
  refine wp_aload_n 0 dX12_meets_4 rfl rfl ?_
  refine wp_getI dX12_meets_5 fl_X12_334 i1 ?_
  refine wp_aload_n 0 dX12_meets_8 rfl rfl ?_
  refine wp_callV (as := []) dX12_meets_9 cb_X12_packed lk_X12_327 im_X12_packed se_X12_packed rfl (Nat.le_of_ble_eq_true rfl) ⟨by decide, by decide⟩ ⟨Nat.le_refl _, Nat.le_refl _, Nat.le_refl _⟩ i1 rfl (by decide) hb (fun r0 h4 hb => ?_)
  obtain ⟨r5, rfl, hb⟩ := hb
  obtain ⟨b6, hb⟩ := hb
  refine wp_lastore dX12_meets_12 i2 b6 ?_
  refine wp_topH (fun h7 e8 => ?_)
  have hb := hb h7 e8
  refine wp_aload_n 0 dX12_meets_13 rfl rfl ?_
  obtain ⟨i9, hb⟩ := hb
  refine wp_getR dX12_meets_14 fl_X12_68 i1 (i9.ne (by decide)) ?_
  refine wp_aload_n 0 dX12_meets_17 rfl rfl ?_
  refine wp_getI dX12_meets_18 fl_X12_334 i1 ?_
  refine wp_aload_n 0 dX12_meets_21 rfl rfl ?_
  refine wp_callV (as := []) dX12_meets_22 cb_X12_packedVars lk_X12_331 im_X12_packedVars se_X12_packedVars rfl (Nat.le_of_ble_eq_true rfl) ⟨by decide, by decide⟩ ⟨Nat.le_refl _, Nat.le_refl _, Nat.le_refl _⟩ i1 rfl (by decide) hb (fun r0 h11 hb => ?_)
  obtain ⟨r12, rfl, hb⟩ := hb
  obtain ⟨b13, hb⟩ := hb
  refine wp_lastore dX12_meets_25 i9 b13 ?_
  refine wp_topH (fun h14 e15 => ?_)
  have hb := hb h14 e15
  refine wp_aload_n 0 dX12_meets_26 rfl rfl ?_
  obtain ⟨i16, hb⟩ := hb
  refine wp_getR dX12_meets_27 fl_X12_71 i1 (i16.ne (by decide)) ?_
  refine wp_aload_n 0 dX12_meets_30 rfl rfl ?_
  refine wp_getI dX12_meets_31 fl_X12_334 i1 ?_
  refine wp_iload_n 1 dX12_meets_34 rfl rfl ?_
  obtain ⟨b17, hb⟩ := hb
  refine wp_iastore dX12_meets_35 i16 b17 ?_
  refine wp_topH (fun h18 e19 => ?_)
  have hb := hb h18 e19
  refine wp_aload_n 0 dX12_meets_36 rfl rfl ?_
  obtain ⟨i20, hb⟩ := hb
  refine wp_getR dX12_meets_37 fl_X12_74 i1 (i20.ne (by decide)) ?_
  refine wp_aload_n 0 dX12_meets_40 rfl rfl ?_
  refine wp_getI dX12_meets_41 fl_X12_334 i1 ?_
  refine wp_iload_n 2 dX12_meets_44 rfl rfl ?_
  obtain ⟨b21, hb⟩ := hb
  refine wp_iastore dX12_meets_45 i20 b21 ?_
  refine wp_topH (fun h22 e23 => ?_)
  have hb := hb h22 e23
  refine wp_aload_n 0 dX12_meets_46 rfl rfl ?_
  obtain ⟨i24, hb⟩ := hb
  refine wp_getR dX12_meets_47 fl_X12_77 i1 (i24.ne (by decide)) ?_
  refine wp_aload_n 0 dX12_meets_50 rfl rfl ?_
  refine wp_getI dX12_meets_51 fl_X12_334 i1 ?_
  refine wp_iload_n 1 dX12_meets_54 rfl rfl ?_
  refine wp_iconst (v := (-1)) dX12_meets_55 (by decide) ?_
  refine wp_icmp_ne (tgt := 63) dX12_meets_56 (by decide) (fun c25 => ?_) (fun c25 => ?_)
  · have hb := hb.1 c25
    refine wp_aload_n 0 dX12_meets_63 rfl rfl ?_
    obtain ⟨i26, hb⟩ := hb
    refine wp_getR dX12_meets_64 fl_X12_77 i1 (i26.ne (by decide)) ?_
    refine wp_iload_n 1 dX12_meets_67 rfl rfl ?_
    obtain ⟨b27, hb⟩ := hb
    refine wp_iaload dX12_meets_68 i26 b27 ?_
    refine wp_iconst (v := 1) dX12_meets_69 (by decide) ?_
    refine wp_iadd dX12_meets_70 ?_
    obtain ⟨b28, hb⟩ := hb
    refine wp_iastore dX12_meets_71 i24 b28 ?_
    refine wp_topH (fun h29 e30 => ?_)
    have hb := hb h29 e30
    refine wp_aload_n 0 dX12_meets_72 rfl rfl ?_
    refine wp_dup dX12_meets_73 rfl ?_
    refine wp_getI dX12_meets_74 fl_X12_334 i1 ?_
    refine wp_iconst (v := 1) dX12_meets_77 (by decide) ?_
    refine wp_iadd dX12_meets_78 ?_
    refine wp_putI dX12_meets_79 fl_X12_334 (Or.inl rfl) i1 ?_
    refine wp_topH (fun h31 e32 => ?_)
    have hb := hb h31 e32
    exact wp_vret rfl dX12_meets_82 ⟨rfl, hb⟩
  · have hb := hb.2 c25
    refine wp_iconst (v := 0) dX12_meets_59 (by decide) ?_
    refine wp_goto (tgt := 71) dX12_meets_60 (by decide) ?_
    obtain ⟨b33, hb⟩ := hb
    refine wp_iastore dX12_meets_71 i24 b33 ?_
    refine wp_topH (fun h34 e35 => ?_)
    have hb := hb h34 e35
    refine wp_aload_n 0 dX12_meets_72 rfl rfl ?_
    refine wp_dup dX12_meets_73 rfl ?_
    refine wp_getI dX12_meets_74 fl_X12_334 i1 ?_
    refine wp_iconst (v := 1) dX12_meets_77 (by decide) ?_
    refine wp_iadd dX12_meets_78 ?_
    refine wp_putI dX12_meets_79 fl_X12_334 (Or.inl rfl) i1 ?_
    refine wp_topH (fun h36 e37 => ?_)
    have hb := hb h36 e37
    exact wp_vret rfl dX12_meets_82 ⟨rfl, hb⟩
theorem c_X12_meets {l : Launch} {g : AG} {h : AH} {x0 : Nat} {x1 : Int32} {x2 : Int32}  {Q : AH → Prop} (hb : L_X12_meets_0 l g h x0 x1 x2  Q) : C_X12_meets l g h x0 x1 x2  Q := ax_met rfl (Nat.le_of_ble_eq_true rfl) hb
def C_X12_view (l : Launch) (g : AG) (h : AH) (x0 : Nat) (x1 : Nat) (x2 : Int32)  (Q : Int64 → AH → Prop) : Prop := Ct l g mX12_view 1 27 194 194 h [.ref x0, .ref x1, .int x2] (ax_QL Q)
def L_X12_view_0 (l : Launch) (g : AG) (h : AH) (x0 : Nat) (x1 : Nat) (x2 : Int32)  (Q : Int64 → AH → Prop) : Prop := Wp l g mX12_view 1 27 194 194 194 0 [(0, .ref x0), (1, .ref x1), (2, .int x2)] [] h (FM g 194 194 (ax_QL Q))
def L_X12_view_49 (l : Launch) (g : AG) (h : AH) (x0 : Nat) (x1 : Nat) (x3 : Int32) (x4 : Int64) (x6 : Int32)  (Q : Int64 → AH → Prop) : Prop := Wp l g mX12_view 1 27 194 194 194 49 [(0, .ref x0), (1, .ref x1), (3, .int x3), (4, .long x4), (6, .int x6)] [] h (FM g 194 194 (ax_QL Q))
set_option maxRecDepth 100000 in
set_option maxHeartbeats 4000000 in
theorem s_X12_view_0 {l : Launch} {g : AG} {h : AH} {x0 : Nat} {x1 : Nat} {x2 : Int32}  {Q : Int64 → AH → Prop} (hb : (Is 194 x0 11) ∧ ( (Is 194 (h.2.2 x0 26) 21) ∧ ( (vp_in x2 (ax_s (h.2.2 x0 26)).2) ∧ ( (Is 194 (h.2.2 x0 27) 21) ∧ ( (vp_in x2 (ax_s (h.2.2 x0 27)).2) ∧ ( C_X12_unpack l g h x0 (h.2.1 (h.2.2 x0 26) x2.toNatClampNeg) (h.2.1 (h.2.2 x0 27) x2.toNatClampNeg) (fun h7 => ( ((h7.1 x0 19 ≤ 0 → ((Is 194 (h7.2.2 x0 21) 20) ∧ ( (vp_in ((h7.1 x0 20) - 1) (ax_s (h7.2.2 x0 21)).2) ∧ ( ∀ v11 : Int32, v11 = (h7.1 (h7.2.2 x0 21) ((h7.1 x0 20) - 1).toNatClampNeg) → ( ∀ v13 : Int64, v13 = v11.toInt64 → ( L_X12_view_49 l g h7 x0 x1 v11 v13 0  Q)))))) ∧ (¬ (h7.1 x0 19 ≤ 0) → (Q ((-(h7.1 x0 19)).toInt64) h7))))))))))) : L_X12_view_0 l g h x0 x1 x2  Q := by
  obtain ⟨i1, hb⟩ := hb
  refine wp_aload_n 0 dX12_view_0 rfl rfl ?_
  refine wp_aload_n 0 dX12_view_1 rfl rfl ?_
  obtain ⟨i2, hb⟩ := hb
  refine wp_getR dX12_view_2 fl_X12_65 i1 (i2.ne (by decide)) ?_
  refine wp_iload_n 2 dX12_view_5 rfl rfl ?_
  obtain ⟨b3, hb⟩ := hb
  refine wp_laload dX12_view_6 i2 b3 ?_
  refine wp_aload_n 0 dX12_view_7 rfl rfl ?_
  obtain ⟨i4, hb⟩ := hb
  refine wp_getR dX12_view_8 fl_X12_68 i1 (i4.ne (by decide)) ?_
  refine wp_iload_n 2 dX12_view_11 rfl rfl ?_
  obtain ⟨b5, hb⟩ := hb
  refine wp_laload dX12_view_12 i4 b5 ?_
  refine wp_callV (as := [.long (h.2.1 (h.2.2 x0 26) x2.toNatClampNeg), .long (h.2.1 (h.2.2 x0 27) x2.toNatClampNeg)]) dX12_view_13 cb_X12_unpack lk_X12_377 im_X12_unpack se_X12_unpack rfl (Nat.le_of_ble_eq_true rfl) ⟨by decide, by decide⟩ ⟨Nat.le_refl _, Nat.le_refl _, Nat.le_refl _⟩ i1 rfl (by decide) hb (fun r0 h7 hb => ?_)
  obtain ⟨rfl, hb⟩ := hb
  refine wp_aload_n 0 dX12_view_16 rfl rfl ?_
  refine wp_getI dX12_view_17 fl_X12_343 i1 ?_
  refine wp_if_le (tgt := 30) dX12_view_20 (by decide) (fun c8 => ?_) (fun c8 => ?_)
  · have hb := hb.1 c8
    refine wp_aload_n 0 dX12_view_30 rfl rfl ?_
    obtain ⟨i9, hb⟩ := hb
    refine wp_getR dX12_view_31 fl_X12_52 i1 (i9.ne (by decide)) ?_
    refine wp_aload_n 0 dX12_view_34 rfl rfl ?_
    refine wp_getI dX12_view_35 fl_X12_346 i1 ?_
    refine wp_iconst (v := 1) dX12_view_38 (by decide) ?_
    refine wp_isub dX12_view_39 ?_
    obtain ⟨b10, hb⟩ := hb
    refine wp_iaload dX12_view_40 i9 b10 ?_
    refine wp_topi (fun v11 e12 => ?_)
    have hb := hb v11 e12
    refine wp_istore_n (lv2 := [(3, .int v11), (0, .ref x0), (1, .ref x1), (2, .int x2)]) dX12_view_41 rfl (by decide) rfl ?_
    refine wp_iload_n 0 dX12_view_42 rfl rfl ?_
    refine wp_i2l dX12_view_43 ?_
    refine wp_topl (fun v13 e14 => ?_)
    have hb := hb v13 e14
    refine wp_lstore (lv2 := [(4, .long v13), (3, .int v11), (0, .ref x0), (1, .ref x1), (2, .int x2)]) dX12_view_44 (by decide) rfl ?_
    refine wp_iconst (v := 0) dX12_view_46 (by decide) ?_
    refine wp_istore (lv2 := [(6, .int 0), (4, .long v13), (3, .int v11), (0, .ref x0), (1, .ref x1), (2, .int x2)]) dX12_view_47 (by decide) rfl ?_
    exact wp_sub [3, 4, 2, 1, 0] rfl hb
  · have hb := hb.2 c8
    refine wp_aload_n 0 dX12_view_23 rfl rfl ?_
    refine wp_getI dX12_view_24 fl_X12_343 i1 ?_
    refine wp_ineg dX12_view_27 ?_
    refine wp_i2l dX12_view_28 ?_
    exact wp_lret rfl dX12_view_29 ⟨_, rfl, hb⟩
set_option maxRecDepth 100000 in
set_option maxHeartbeats 4000000 in
theorem s_X12_view_49 {l : Launch} {g : AG} {h : AH} {x0 : Nat} {x1 : Nat} {x3 : Int32} {x4 : Int64} {x6 : Int32}  {Q : Int64 → AH → Prop} (hb : ((6 ≤ x6 → ((Is 194 x0 11) ∧ ( (Is 194 x1 9) ∧ ( C_X12_pressed l g h x0 x1 (fun r20 h19 => ( Q ((jlshl x4 24) ||| r20.toInt64) h19)))))) ∧ (¬ (6 ≤ x6) → ((Is 194 x1 9) ∧ ( (Is 194 (h.2.2 x1 7) 20) ∧ ( (vp_in x3 (ax_s (h.2.2 x1 7)).2) ∧ ( ((h.1 (h.2.2 x1 7) x3.toNatClampNeg ≤ x6 → (∀ v25 : Int64, v25 = ((jlshl x4 4) ||| ((0 : Int32).toInt64)) → ( ∀ v27 : Int32, v27 = x6 + (1) → ( L_X12_view_49 l g h x0 x1 x3 v25 v27  Q)))) ∧ (¬ (h.1 (h.2.2 x1 7) x3.toNatClampNeg ≤ x6) → ((Is 194 x0 11) ∧ ( (Is 194 (h.2.2 x0 23) 20) ∧ ( (Is 194 (h.2.2 x1 8) 20) ∧ ( (vp_in ((6 * x3) + x6) (ax_s (h.2.2 x1 8)).2) ∧ ( (vp_in (h.1 (h.2.2 x1 8) ((6 * x3) + x6).toNatClampNeg) (ax_s (h.2.2 x0 23)).2) ∧ ( ∀ v34 : Int32, v34 = (h.1 (h.2.2 x0 23) (h.1 (h.2.2 x1 8) ((6 * x3) + x6).toNatClampNeg).toNatClampNeg) → ( ∀ v36 : Int64, v36 = ((jlshl x4 4) ||| v34.toInt64) → ( ∀ v38 : Int32, v38 = x6 + (1) → ( L_X12_view_49 l g h x0 x1 x3 v36 v38  Q)))))))))))))))))) : L_X12_view_49 l g h x0 x1 x3 x4 x6  Q := by
  refine wp_iload 4 dX12_view_49 rfl ?_
  refine wp_bipush (v := 6) dX12_view_51 (by decide) ?_
  refine wp_icmp_ge (tgt := 102) dX12_view_53 (by decide) (fun c15 => ?_) (fun c15 => ?_)
  · have hb := hb.1 c15
    refine wp_lload 3 dX12_view_102 rfl ?_
    refine wp_bipush (v := 24) dX12_view_104 (by decide) ?_
    refine wp_lshl dX12_view_106 ?_
    obtain ⟨i16, hb⟩ := hb
    refine wp_aload_n 0 dX12_view_107 rfl rfl ?_
    obtain ⟨i17, hb⟩ := hb
    refine wp_aload_n 1 dX12_view_108 rfl rfl ?_
    refine wp_callV (as := [.ref x1]) dX12_view_109 cb_X12_pressed lk_X12_354 im_X12_pressed se_X12_pressed rfl (Nat.le_of_ble_eq_true rfl) ⟨by decide, by decide⟩ ⟨Nat.le_refl _, Nat.le_refl _, Nat.le_refl _⟩ i16 rfl (by decide) hb (fun r0 h19 hb => ?_)
    obtain ⟨r20, rfl, hb⟩ := hb
    refine wp_i2l dX12_view_112 ?_
    refine wp_lor dX12_view_113 ?_
    exact wp_lret rfl dX12_view_114 ⟨_, rfl, hb⟩
  · have hb := hb.2 c15
    refine wp_lload 3 dX12_view_56 rfl ?_
    refine wp_iconst (v := 4) dX12_view_58 (by decide) ?_
    refine wp_lshl dX12_view_59 ?_
    refine wp_iload 4 dX12_view_60 rfl ?_
    obtain ⟨i21, hb⟩ := hb
    refine wp_aload_n 1 dX12_view_62 rfl rfl ?_
    obtain ⟨i22, hb⟩ := hb
    refine wp_getR dX12_view_63 fl_X12_252 i21 (i22.ne (by decide)) ?_
    refine wp_iload_n 2 dX12_view_66 rfl rfl ?_
    obtain ⟨b23, hb⟩ := hb
    refine wp_iaload dX12_view_67 i22 b23 ?_
    refine wp_icmp_ge (tgt := 91) dX12_view_68 (by decide) (fun c24 => ?_) (fun c24 => ?_)
    · have hb := hb.1 c24
      refine wp_iconst (v := 0) dX12_view_91 (by decide) ?_
      refine wp_i2l dX12_view_92 ?_
      refine wp_lor dX12_view_93 ?_
      refine wp_topl (fun v25 e26 => ?_)
      have hb := hb v25 e26
      refine wp_lstore (lv2 := [(4, .long v25), (0, .ref x0), (1, .ref x1), (3, .int x3), (6, .int x6)]) dX12_view_94 (by decide) rfl ?_
      obtain ⟨v27, e28⟩ : ∃ y : Int32, y = x6 + (1) := ⟨_, rfl⟩
      have hb := hb v27 e28
      refine wp_iinc (v := v27) (lv2 := [(6, .int v27), (4, .long v25), (0, .ref x0), (1, .ref x1), (3, .int x3)]) 4 dX12_view_96 rfl (by rw [e28]; rfl) (by decide) rfl ?_
      refine wp_goto (tgt := 49) dX12_view_99 (by decide) ?_
      exact wp_sub [2, 3, 4, 1, 0] rfl hb
    · have hb := hb.2 c24
      obtain ⟨i29, hb⟩ := hb
      refine wp_aload_n 0 dX12_view_71 rfl rfl ?_
      obtain ⟨i30, hb⟩ := hb
      refine wp_getR dX12_view_72 fl_X12_59 i29 (i30.ne (by decide)) ?_
      refine wp_aload_n 1 dX12_view_75 rfl rfl ?_
      obtain ⟨i31, hb⟩ := hb
      refine wp_getR dX12_view_76 fl_X12_257 i21 (i31.ne (by decide)) ?_
      refine wp_bipush (v := 6) dX12_view_79 (by decide) ?_
      refine wp_iload_n 2 dX12_view_81 rfl rfl ?_
      refine wp_imul dX12_view_82 ?_
      refine wp_iload 4 dX12_view_83 rfl ?_
      refine wp_iadd dX12_view_85 ?_
      obtain ⟨b32, hb⟩ := hb
      refine wp_iaload dX12_view_86 i31 b32 ?_
      obtain ⟨b33, hb⟩ := hb
      refine wp_iaload dX12_view_87 i30 b33 ?_
      refine wp_topi (fun v34 e35 => ?_)
      have hb := hb v34 e35
      refine wp_goto (tgt := 92) dX12_view_88 (by decide) ?_
      refine wp_i2l dX12_view_92 ?_
      refine wp_lor dX12_view_93 ?_
      refine wp_topl (fun v36 e37 => ?_)
      have hb := hb v36 e37
      refine wp_lstore (lv2 := [(4, .long v36), (0, .ref x0), (1, .ref x1), (3, .int x3), (6, .int x6)]) dX12_view_94 (by decide) rfl ?_
      obtain ⟨v38, e39⟩ : ∃ y : Int32, y = x6 + (1) := ⟨_, rfl⟩
      have hb := hb v38 e39
      refine wp_iinc (v := v38) (lv2 := [(6, .int v38), (4, .long v36), (0, .ref x0), (1, .ref x1), (3, .int x3)]) 4 dX12_view_96 rfl (by rw [e39]; rfl) (by decide) rfl ?_
      refine wp_goto (tgt := 49) dX12_view_99 (by decide) ?_
      exact wp_sub [2, 3, 4, 1, 0] rfl hb
theorem c_X12_view {l : Launch} {g : AG} {h : AH} {x0 : Nat} {x1 : Nat} {x2 : Int32}  {Q : Int64 → AH → Prop} (hb : L_X12_view_0 l g h x0 x1 x2  Q) : C_X12_view l g h x0 x1 x2  Q := ax_met rfl (Nat.le_of_ble_eq_true rfl) hb
