def C_X1_partedBy (l : Launch) (g : AG) (h : AH) (x0 : Nat) (x1 : Int32)  (Q : Int32 → AH → Prop) : Prop := Ct l g mX1_partedBy 2 60 194 194 h [.ref x0, .int x1] (ax_QI Q)
def L_X1_partedBy_0 (l : Launch) (g : AG) (h : AH) (x0 : Nat) (x1 : Int32)  (Q : Int32 → AH → Prop) : Prop := Wp l g mX1_partedBy 2 60 194 194 194 0 [(0, .ref x0), (1, .int x1)] [] h (FM g 194 194 (ax_QI Q))
def L_X1_partedBy_28 (l : Launch) (g : AG) (h : AH) (x0 : Nat) (x1 : Int32) (x2 : Int32)  (Q : Int32 → AH → Prop) : Prop := Wp l g mX1_partedBy 2 60 194 194 194 28 [(0, .ref x0), (1, .int x1), (2, .int x2)] [] h (FM g 194 194 (ax_QI Q))
set_option maxRecDepth 100000 in
set_option maxHeartbeats 4000000 in
theorem s_X1_partedBy_0 {l : Launch} {g : AG} {h : AH} {x0 : Nat} {x1 : Int32}  {Q : Int32 → AH → Prop} (hb : (Is 194 x0 1) ∧ ( (Is 194 (h.2.2 x0 1) 0) ∧ ( ((x1 < h.1 (h.2.2 x0 1) 1 → ((Is 194 (h.2.2 x0 4) 5) ∧ ( C_X6_clear l g h (h.2.2 x0 4) (fun h6 => ( L_X1_partedBy_28 l g h6 x0 x1 0  Q))))) ∧ (¬ (x1 < h.1 (h.2.2 x0 1) 1) → (((24 ≤ x1 → ((Is 194 (h.2.2 x0 4) 5) ∧ ( C_X6_clear l g h (h.2.2 x0 4) (fun h10 => ( L_X1_partedBy_28 l g h10 x0 x1 0  Q))))) ∧ (¬ (24 ≤ x1) → (Q 0 h))))))))) : L_X1_partedBy_0 l g h x0 x1  Q := by
  refine wp_iload_n 1 dX1_partedBy_0 rfl rfl ?_
  obtain ⟨i1, hb⟩ := hb
  refine wp_aload_n 0 dX1_partedBy_1 rfl rfl ?_
  obtain ⟨i2, hb⟩ := hb
  refine wp_getR dX1_partedBy_2 fl_X1_42 i1 (i2.ne (by decide)) ?_
  refine wp_getI dX1_partedBy_5 fl_X1_104 i2 ?_
  refine wp_icmp_lt (tgt := 19) dX1_partedBy_8 (by decide) (fun c3 => ?_) (fun c3 => ?_)
  · have hb := hb.1 c3
    refine wp_aload_n 0 dX1_partedBy_19 rfl rfl ?_
    obtain ⟨i4, hb⟩ := hb
    refine wp_getR dX1_partedBy_20 fl_X1_26 i1 (i4.ne (by decide)) ?_
    refine wp_callVN (as := []) dX1_partedBy_23 cb_X6_clear lk_X1_56 im_X6_clear se_X6_clear rfl (Nat.le_of_ble_eq_true rfl) ⟨by decide, by decide⟩ ⟨Nat.le_refl _, Nat.le_refl _, Nat.le_refl _⟩ i4 rfl (by decide) hb (fun r0 h6 hb => ?_)
    obtain ⟨rfl, hb⟩ := hb
    refine wp_iconst (v := 0) dX1_partedBy_26 (by decide) ?_
    refine wp_istore_n (lv2 := [(2, .int 0), (0, .ref x0), (1, .int x1)]) dX1_partedBy_27 rfl (by decide) rfl ?_
    exact wp_sub [1, 2, 0] rfl hb
  · have hb := hb.2 c3
    refine wp_iload_n 1 dX1_partedBy_11 rfl rfl ?_
    refine wp_bipush (v := 24) dX1_partedBy_12 (by decide) ?_
    refine wp_icmp_ge (tgt := 19) dX1_partedBy_14 (by decide) (fun c7 => ?_) (fun c7 => ?_)
    · have hb := hb.1 c7
      refine wp_aload_n 0 dX1_partedBy_19 rfl rfl ?_
      obtain ⟨i8, hb⟩ := hb
      refine wp_getR dX1_partedBy_20 fl_X1_26 i1 (i8.ne (by decide)) ?_
      refine wp_callVN (as := []) dX1_partedBy_23 cb_X6_clear lk_X1_56 im_X6_clear se_X6_clear rfl (Nat.le_of_ble_eq_true rfl) ⟨by decide, by decide⟩ ⟨Nat.le_refl _, Nat.le_refl _, Nat.le_refl _⟩ i8 rfl (by decide) hb (fun r0 h10 hb => ?_)
      obtain ⟨rfl, hb⟩ := hb
      refine wp_iconst (v := 0) dX1_partedBy_26 (by decide) ?_
      refine wp_istore_n (lv2 := [(2, .int 0), (0, .ref x0), (1, .int x1)]) dX1_partedBy_27 rfl (by decide) rfl ?_
      exact wp_sub [1, 2, 0] rfl hb
    · have hb := hb.2 c7
      refine wp_iconst (v := 0) dX1_partedBy_17 (by decide) ?_
      exact wp_zret rfl dX1_partedBy_18 (Or.inl rfl) ⟨_, rfl, hb⟩
set_option maxRecDepth 100000 in
set_option maxHeartbeats 4000000 in
theorem s_X1_partedBy_28 {l : Launch} {g : AG} {h : AH} {x0 : Nat} {x1 : Int32} {x2 : Int32}  {Q : Int32 → AH → Prop} (hb : (Is 194 x0 1) ∧ ( (Is 194 (h.2.2 x0 2) 5) ∧ ( ((h.1 (h.2.2 x0 2) 0 ≤ x2 → ((Is 194 (h.2.2 x0 7) 20) ∧ ( (Is 194 (h.2.2 x0 6) 20) ∧ ( (Is 194 (h.2.2 x0 2) 5) ∧ ( (¬ h.1 (h.2.2 x0 2) 0 < 0 ∧ (h.1 (h.2.2 x0 2) 0).toNatClampNeg ≤ (ax_s (h.2.2 x0 7)).2 ∧ (h.1 (h.2.2 x0 2) 0).toNatClampNeg ≤ (ax_s (h.2.2 x0 6)).2) ∧ ( ∀ h18 : AH, h18 = ax_copy h (h.2.2 x0 7) (h.2.2 x0 6) (h.1 (h.2.2 x0 2) 0) → ( (Is 194 (h18.2.2 x0 4) 5) ∧ ( ((h18.1 (h18.2.2 x0 4) 0 ≤ h18.1 x0 5 → ((Is 194 (h18.2.2 x0 4) 5) ∧ ( ∀ h23 : AH, h23 = ax_setI h18 x0 5 (h18.1 (h18.2.2 x0 4) 0) → ( Q 0 h23)))) ∧ (¬ (h18.1 (h18.2.2 x0 4) 0 ≤ h18.1 x0 5) → ((Is 194 (h18.2.2 x0 4) 5) ∧ ( ∀ h26 : AH, h26 = ax_setI h18 x0 5 (h18.1 (h18.2.2 x0 4) 0) → ( Q 1 h26))))))))))))) ∧ (¬ (h.1 (h.2.2 x0 2) 0 ≤ x2) → ((Is 194 (h.2.2 x0 3) 20) ∧ ( (vp_in ((x2 * 27) + x1) (ax_s (h.2.2 x0 3)).2) ∧ ( ∀ v30 : Int32, v30 = (h.1 (h.2.2 x0 3) ((x2 * 27) + x1).toNatClampNeg) → ( (Is 194 (h.2.2 x0 7) 20) ∧ ( (Is 194 (h.2.2 x0 4) 5) ∧ ( (Is 194 (h.2.2 x0 6) 20) ∧ ( (vp_in x2 (ax_s (h.2.2 x0 6)).2) ∧ ( ((v30 < 0 → (C_X6_meet l g h (h.2.2 x0 4) ((h.1 (h.2.2 x0 6) x2.toNatClampNeg).toInt64) (-1) (-1) (-1) (fun r39 h38 => ( (vp_in x2 (ax_s (h.2.2 x0 7)).2) ∧ ( ∀ h41 : AH, h41 = ax_setI h38 (h.2.2 x0 7) x2.toNatClampNeg r39 → ( ∀ v43 : Int32, v43 = x2 + (1) → ( L_X1_partedBy_28 l g h41 x0 x1 v43  Q))))))) ∧ (¬ (v30 < 0) → ((Is 194 (h.2.2 x0 6) 20) ∧ ( (vp_in v30 (ax_s (h.2.2 x0 6)).2) ∧ ( C_X6_meet l g h (h.2.2 x0 4) ((h.1 (h.2.2 x0 6) x2.toNatClampNeg).toInt64) ((h.1 (h.2.2 x0 6) v30.toNatClampNeg).toInt64) (-1) (-1) (fun r49 h48 => ( (vp_in x2 (ax_s (h.2.2 x0 7)).2) ∧ ( ∀ h51 : AH, h51 = ax_setI h48 (h.2.2 x0 7) x2.toNatClampNeg r49 → ( ∀ v53 : Int32, v53 = x2 + (1) → ( L_X1_partedBy_28 l g h51 x0 x1 v53  Q))))))))))))))))))))))) : L_X1_partedBy_28 l g h x0 x1 x2  Q := by
  refine wp_iload_n 2 dX1_partedBy_28 rfl rfl ?_
  obtain ⟨i11, hb⟩ := hb
  refine wp_aload_n 0 dX1_partedBy_29 rfl rfl ?_
  obtain ⟨i12, hb⟩ := hb
  refine wp_getR dX1_partedBy_30 fl_X1_18 i11 (i12.ne (by decide)) ?_
  refine wp_getI dX1_partedBy_33 fl_X1_50 i12 ?_
  refine wp_icmp_ge (tgt := 96) dX1_partedBy_36 (by decide) (fun c13 => ?_) (fun c13 => ?_)
  · have hb := hb.1 c13
    refine wp_aload_n 0 dX1_partedBy_96 rfl rfl ?_
    obtain ⟨i14, hb⟩ := hb
    refine wp_getR dX1_partedBy_97 fl_X1_35 i11 (i14.ne (by decide)) ?_
    refine wp_iconst (v := 0) dX1_partedBy_100 (by decide) ?_
    refine wp_aload_n 0 dX1_partedBy_101 rfl rfl ?_
    obtain ⟨i15, hb⟩ := hb
    refine wp_getR dX1_partedBy_102 fl_X1_32 i11 (i15.ne (by decide)) ?_
    refine wp_iconst (v := 0) dX1_partedBy_105 (by decide) ?_
    refine wp_aload_n 0 dX1_partedBy_106 rfl rfl ?_
    obtain ⟨i16, hb⟩ := hb
    refine wp_getR dX1_partedBy_107 fl_X1_18 i11 (i16.ne (by decide)) ?_
    refine wp_getI dX1_partedBy_110 fl_X1_50 i16 ?_
    obtain ⟨b17, hb⟩ := hb
    refine wp_copy dX1_partedBy_113 lk_X1_143 i14 i15 b17 (Nat.le_of_ble_eq_true rfl) (by decide) (by decide) ?_
    refine wp_topH (fun h18 e19 => ?_)
    have hb := hb h18 e19
    refine wp_aload_n 0 dX1_partedBy_116 rfl rfl ?_
    obtain ⟨i20, hb⟩ := hb
    refine wp_getR dX1_partedBy_117 fl_X1_26 i11 (i20.ne (by decide)) ?_
    refine wp_getI dX1_partedBy_120 fl_X1_50 i20 ?_
    refine wp_aload_n 0 dX1_partedBy_123 rfl rfl ?_
    refine wp_getI dX1_partedBy_124 fl_X1_29 i11 ?_
    refine wp_icmp_le (tgt := 134) dX1_partedBy_127 (by decide) (fun c21 => ?_) (fun c21 => ?_)
    · have hb := hb.1 c21
      refine wp_iconst (v := 0) dX1_partedBy_134 (by decide) ?_
      refine wp_istore_n (lv2 := [(2, .int 0), (0, .ref x0), (1, .int x1)]) dX1_partedBy_135 rfl (by decide) rfl ?_
      refine wp_aload_n 1 dX1_partedBy_136 rfl rfl ?_
      refine wp_aload_n 1 dX1_partedBy_137 rfl rfl ?_
      obtain ⟨i22, hb⟩ := hb
      refine wp_getR dX1_partedBy_138 fl_X1_26 i11 (i22.ne (by decide)) ?_
      refine wp_getI dX1_partedBy_141 fl_X1_50 i22 ?_
      refine wp_putI dX1_partedBy_144 fl_X1_29 (Or.inl rfl) i11 ?_
      refine wp_topH (fun h23 e24 => ?_)
      have hb := hb h23 e24
      refine wp_iload_n 0 dX1_partedBy_147 rfl rfl ?_
      exact wp_zret rfl dX1_partedBy_148 (Or.inl rfl) ⟨_, rfl, hb⟩
    · have hb := hb.2 c21
      refine wp_iconst (v := 1) dX1_partedBy_130 (by decide) ?_
      refine wp_goto (tgt := 135) dX1_partedBy_131 (by decide) ?_
      refine wp_istore_n (lv2 := [(2, .int 1), (0, .ref x0), (1, .int x1)]) dX1_partedBy_135 rfl (by decide) rfl ?_
      refine wp_aload_n 1 dX1_partedBy_136 rfl rfl ?_
      refine wp_aload_n 1 dX1_partedBy_137 rfl rfl ?_
      obtain ⟨i25, hb⟩ := hb
      refine wp_getR dX1_partedBy_138 fl_X1_26 i11 (i25.ne (by decide)) ?_
      refine wp_getI dX1_partedBy_141 fl_X1_50 i25 ?_
      refine wp_putI dX1_partedBy_144 fl_X1_29 (Or.inl rfl) i11 ?_
      refine wp_topH (fun h26 e27 => ?_)
      have hb := hb h26 e27
      refine wp_iload_n 0 dX1_partedBy_147 rfl rfl ?_
      exact wp_zret rfl dX1_partedBy_148 (Or.inr rfl) ⟨_, rfl, hb⟩
  · have hb := hb.2 c13
    refine wp_aload_n 0 dX1_partedBy_39 rfl rfl ?_
    obtain ⟨i28, hb⟩ := hb
    refine wp_getR dX1_partedBy_40 fl_X1_22 i11 (i28.ne (by decide)) ?_
    refine wp_iload_n 2 dX1_partedBy_43 rfl rfl ?_
    refine wp_bipush (v := 27) dX1_partedBy_44 (by decide) ?_
    refine wp_imul dX1_partedBy_46 ?_
    refine wp_iload_n 1 dX1_partedBy_47 rfl rfl ?_
    refine wp_iadd dX1_partedBy_48 ?_
    obtain ⟨b29, hb⟩ := hb
    refine wp_iaload dX1_partedBy_49 i28 b29 ?_
    refine wp_topi (fun v30 e31 => ?_)
    have hb := hb v30 e31
    refine wp_istore_n (lv2 := [(3, .int v30), (0, .ref x0), (1, .int x1), (2, .int x2)]) dX1_partedBy_50 rfl (by decide) rfl ?_
    refine wp_aload_n 1 dX1_partedBy_51 rfl rfl ?_
    obtain ⟨i32, hb⟩ := hb
    refine wp_getR dX1_partedBy_52 fl_X1_35 i11 (i32.ne (by decide)) ?_
    refine wp_iload_n 3 dX1_partedBy_55 rfl rfl ?_
    refine wp_aload_n 1 dX1_partedBy_56 rfl rfl ?_
    obtain ⟨i33, hb⟩ := hb
    refine wp_getR dX1_partedBy_57 fl_X1_26 i11 (i33.ne (by decide)) ?_
    refine wp_aload_n 1 dX1_partedBy_60 rfl rfl ?_
    obtain ⟨i34, hb⟩ := hb
    refine wp_getR dX1_partedBy_61 fl_X1_32 i11 (i34.ne (by decide)) ?_
    refine wp_iload_n 3 dX1_partedBy_64 rfl rfl ?_
    obtain ⟨b35, hb⟩ := hb
    refine wp_iaload dX1_partedBy_65 i34 b35 ?_
    refine wp_i2l dX1_partedBy_66 ?_
    refine wp_iload_n 0 dX1_partedBy_67 rfl rfl ?_
    refine wp_if_lt (tgt := 81) dX1_partedBy_68 (by decide) (fun c36 => ?_) (fun c36 => ?_)
    · have hb := hb.1 c36
      refine wp_ldc2 (v := (-1)) dX1_partedBy_81 lk_X1_141 ?_
      refine wp_iconst (v := (-1)) dX1_partedBy_84 (by decide) ?_
      refine wp_iconst (v := (-1)) dX1_partedBy_85 (by decide) ?_
      refine wp_callVN (as := [.long ((h.1 (h.2.2 x0 6) x2.toNatClampNeg).toInt64), .long (-1), .int (-1), .int (-1)]) dX1_partedBy_86 cb_X6_meet lk_X1_65 im_X6_meet se_X6_meet rfl (Nat.le_of_ble_eq_true rfl) ⟨by decide, by decide⟩ ⟨Nat.le_refl _, Nat.le_refl _, Nat.le_refl _⟩ i33 rfl (by decide) hb (fun r0 h38 hb => ?_)
      obtain ⟨r39, rfl, hb⟩ := hb
      obtain ⟨b40, hb⟩ := hb
      refine wp_iastore dX1_partedBy_89 i32 b40 ?_
      refine wp_topH (fun h41 e42 => ?_)
      have hb := hb h41 e42
      obtain ⟨v43, e44⟩ : ∃ y : Int32, y = x2 + (1) := ⟨_, rfl⟩
      have hb := hb v43 e44
      refine wp_iinc (v := v43) (lv2 := [(2, .int v43), (3, .int v30), (0, .ref x0), (1, .int x1)]) 3 dX1_partedBy_90 rfl (by rw [e44]; rfl) (by decide) rfl ?_
      refine wp_goto (tgt := 28) dX1_partedBy_93 (by decide) ?_
      exact wp_sub [2, 3, 0] rfl hb
    · have hb := hb.2 c36
      refine wp_aload_n 1 dX1_partedBy_71 rfl rfl ?_
      obtain ⟨i45, hb⟩ := hb
      refine wp_getR dX1_partedBy_72 fl_X1_32 i11 (i45.ne (by decide)) ?_
      refine wp_iload_n 0 dX1_partedBy_75 rfl rfl ?_
      obtain ⟨b46, hb⟩ := hb
      refine wp_iaload dX1_partedBy_76 i45 b46 ?_
      refine wp_i2l dX1_partedBy_77 ?_
      refine wp_goto (tgt := 84) dX1_partedBy_78 (by decide) ?_
      refine wp_iconst (v := (-1)) dX1_partedBy_84 (by decide) ?_
      refine wp_iconst (v := (-1)) dX1_partedBy_85 (by decide) ?_
      refine wp_callVN (as := [.long ((h.1 (h.2.2 x0 6) x2.toNatClampNeg).toInt64), .long ((h.1 (h.2.2 x0 6) v30.toNatClampNeg).toInt64), .int (-1), .int (-1)]) dX1_partedBy_86 cb_X6_meet lk_X1_65 im_X6_meet se_X6_meet rfl (Nat.le_of_ble_eq_true rfl) ⟨by decide, by decide⟩ ⟨Nat.le_refl _, Nat.le_refl _, Nat.le_refl _⟩ i33 rfl (by decide) hb (fun r0 h48 hb => ?_)
      obtain ⟨r49, rfl, hb⟩ := hb
      obtain ⟨b50, hb⟩ := hb
      refine wp_iastore dX1_partedBy_89 i32 b50 ?_
      refine wp_topH (fun h51 e52 => ?_)
      have hb := hb h51 e52
      obtain ⟨v53, e54⟩ : ∃ y : Int32, y = x2 + (1) := ⟨_, rfl⟩
      have hb := hb v53 e54
      refine wp_iinc (v := v53) (lv2 := [(2, .int v53), (3, .int v30), (0, .ref x0), (1, .int x1)]) 3 dX1_partedBy_90 rfl (by rw [e54]; rfl) (by decide) rfl ?_
      refine wp_goto (tgt := 28) dX1_partedBy_93 (by decide) ?_
      exact wp_sub [2, 3, 0] rfl hb
theorem c_X1_partedBy {l : Launch} {g : AG} {h : AH} {x0 : Nat} {x1 : Int32}  {Q : Int32 → AH → Prop} (hb : L_X1_partedBy_0 l g h x0 x1  Q) : C_X1_partedBy l g h x0 x1  Q := ax_met rfl (Nat.le_of_ble_eq_true rfl) hb
