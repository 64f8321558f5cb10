def C_X12_acts (l : Launch) (g : AG) (h : AH) (x0 : Nat) (x1 : Nat) (x2 : Int32)  (Q : AH → Prop) : Prop := Ct l g mX12_acts 2 46 194 194 h [.ref x0, .ref x1, .int x2] (ax_QV Q)
def L_X12_acts_0 (l : Launch) (g : AG) (h : AH) (x0 : Nat) (x1 : Nat) (x2 : Int32)  (Q : AH → Prop) : Prop := Wp l g mX12_acts 2 46 194 194 194 0 [(0, .ref x0), (1, .ref x1), (2, .int x2)] [] h (FM g 194 194 (ax_QV Q))
set_option maxRecDepth 100000 in
set_option maxHeartbeats 4000000 in
theorem s_X12_acts_0 {l : Launch} {g : AG} {h : AH} {x0 : Nat} {x1 : Nat} {x2 : Int32}  {Q : AH → Prop} (hb : ((24 ≤ x2 → (((¬ x2 = 24 → (((¬ x2 = 25 → ((Is 194 x0 11) ∧ ( ∀ h5 : AH, h5 = ax_setI h x0 19 0 → ( ∀ h7 : AH, h7 = ax_setI h5 x0 20 1 → ( (Is 194 (h7.2.2 x0 21) 20) ∧ ( (vp_in 0 (ax_s (h7.2.2 x0 21)).2) ∧ ( ∀ h11 : AH, h11 = ax_setI h7 (h7.2.2 x0 21) (0 : Int32).toNatClampNeg 0 → ( (Is 194 (h11.2.2 x0 22) 20) ∧ ( (vp_in 0 (ax_s (h11.2.2 x0 22)).2) ∧ ( ∀ h15 : AH, h15 = ax_setI h11 (h11.2.2 x0 22) (0 : Int32).toNatClampNeg 0 → ( (Is 194 x1 9) ∧ ( C_X12_forgets l g h15 x0 x1 (fun h19 => ( Q h19)))))))))))))) ∧ (x2 = 25 → ((Is 194 x0 11) ∧ ( ∀ h21 : AH, h21 = ax_setI h x0 20 ((h.1 x0 20) - 1) → ( Q h21))))))) ∧ (x2 = 24 → ((Is 194 x0 11) ∧ ( (Is 194 (h.2.2 x0 21) 20) ∧ ( (vp_in ((h.1 x0 20) - 1) (ax_s (h.2.2 x0 21)).2) ∧ ( ∀ v26 : Int32, v26 = (h.1 (h.2.2 x0 21) ((h.1 x0 20) - 1).toNatClampNeg) → ( (Is 194 x1 9) ∧ ( (Is 194 (h.2.2 x1 9) 20) ∧ ( (vp_in v26 (ax_s (h.2.2 x1 9)).2) ∧ ( ((¬ h.1 (h.2.2 x1 9) v26.toNatClampNeg = 0 → ((Is 194 (h.2.2 x0 22) 20) ∧ ( (vp_in ((h.1 x0 20) - 1) (ax_s (h.2.2 x0 22)).2) ∧ ( ∀ v34 : Int32, v34 = (h.1 (h.2.2 x0 22) ((h.1 x0 20) - 1).toNatClampNeg) → ( (vp_in ((h.1 x0 20) - 1) (ax_s (h.2.2 x0 22)).2) ∧ ( ∀ h37 : AH, h37 = ax_setI h (h.2.2 x0 22) ((h.1 x0 20) - 1).toNatClampNeg (v34 + 1) → ( (Is 194 (h37.2.2 x0 22) 20) ∧ ( (vp_in ((h37.1 x0 20) - 1) (ax_s (h37.2.2 x0 22)).2) ∧ ( ∀ v41 : Int32, v41 = (h37.1 (h37.2.2 x0 22) ((h37.1 x0 20) - 1).toNatClampNeg) → ( (Is 194 (h37.2.2 x1 9) 20) ∧ ( (vp_in v26 (ax_s (h37.2.2 x1 9)).2) ∧ ( ((h37.1 (h37.2.2 x1 9) v26.toNatClampNeg ≤ v41 → ((Is 194 (h37.2.2 x0 22) 20) ∧ ( (vp_in ((h37.1 x0 20) - 1) (ax_s (h37.2.2 x0 22)).2) ∧ ( ∀ h48 : AH, h48 = ax_setI h37 (h37.2.2 x0 22) ((h37.1 x0 20) - 1).toNatClampNeg 0 → ( C_X12_does l g h48 x0 x1 (24 + v26) (fun h51 => ( Q h51))))))) ∧ (¬ (h37.1 (h37.2.2 x1 9) v26.toNatClampNeg ≤ v41) → (Q h37))))))))))))))) ∧ (h.1 (h.2.2 x1 9) v26.toNatClampNeg = 0 → (Q h))))))))))))))) ∧ (¬ (24 ≤ x2) → ((Is 194 x0 11) ∧ ( (Is 194 x1 9) ∧ ( C_X12_does l g h x0 x1 x2 (fun h55 => ( Q h55)))))))) : L_X12_acts_0 l g h x0 x1 x2  Q := by
  refine wp_iload_n 2 dX12_acts_0 rfl rfl ?_
  refine wp_bipush (v := 24) dX12_acts_1 (by decide) ?_
  refine wp_icmp_ge (tgt := 15) dX12_acts_3 (by decide) (fun c1 => ?_) (fun c1 => ?_)
  · have hb := hb.1 c1
    refine wp_iload_n 2 dX12_acts_15 rfl rfl ?_
    refine wp_bipush (v := 24) dX12_acts_16 (by decide) ?_
    refine wp_icmp_ne (tgt := 103) dX12_acts_18 (by decide) (fun c2 => ?_) (fun c2 => ?_)
    · have hb := hb.1 c2
      refine wp_iload_n 2 dX12_acts_103 rfl rfl ?_
      refine wp_bipush (v := 25) dX12_acts_104 (by decide) ?_
      refine wp_icmp_ne (tgt := 122) dX12_acts_106 (by decide) (fun c3 => ?_) (fun c3 => ?_)
      · have hb := hb.1 c3
        obtain ⟨i4, hb⟩ := hb
        refine wp_aload_n 0 dX12_acts_122 rfl rfl ?_
        refine wp_iconst (v := 0) dX12_acts_123 (by decide) ?_
        refine wp_putI dX12_acts_124 fl_X12_343 (Or.inl rfl) i4 ?_
        refine wp_topH (fun h5 e6 => ?_)
        have hb := hb h5 e6
        refine wp_aload_n 0 dX12_acts_127 rfl rfl ?_
        refine wp_iconst (v := 1) dX12_acts_128 (by decide) ?_
        refine wp_putI dX12_acts_129 fl_X12_346 (Or.inl rfl) i4 ?_
        refine wp_topH (fun h7 e8 => ?_)
        have hb := hb h7 e8
        refine wp_aload_n 0 dX12_acts_132 rfl rfl ?_
        obtain ⟨i9, hb⟩ := hb
        refine wp_getR dX12_acts_133 fl_X12_52 i4 (i9.ne (by decide)) ?_
        refine wp_iconst (v := 0) dX12_acts_136 (by decide) ?_
        refine wp_iconst (v := 0) dX12_acts_137 (by decide) ?_
        obtain ⟨b10, hb⟩ := hb
        refine wp_iastore dX12_acts_138 i9 b10 ?_
        refine wp_topH (fun h11 e12 => ?_)
        have hb := hb h11 e12
        refine wp_aload_n 0 dX12_acts_139 rfl rfl ?_
        obtain ⟨i13, hb⟩ := hb
        refine wp_getR dX12_acts_140 fl_X12_56 i4 (i13.ne (by decide)) ?_
        refine wp_iconst (v := 0) dX12_acts_143 (by decide) ?_
        refine wp_iconst (v := 0) dX12_acts_144 (by decide) ?_
        obtain ⟨b14, hb⟩ := hb
        refine wp_iastore dX12_acts_145 i13 b14 ?_
        refine wp_topH (fun h15 e16 => ?_)
        have hb := hb h15 e16
        refine wp_aload_n 0 dX12_acts_146 rfl rfl ?_
        obtain ⟨i17, hb⟩ := hb
        refine wp_aload_n 1 dX12_acts_147 rfl rfl ?_
        refine wp_callV (as := [.ref x1]) dX12_acts_148 cb_X12_forgets lk_X12_366 im_X12_forgets se_X12_forgets rfl (Nat.le_of_ble_eq_true rfl) ⟨by decide, by decide⟩ ⟨Nat.le_refl _, Nat.le_refl _, Nat.le_refl _⟩ i4 rfl (by decide) hb (fun r0 h19 hb => ?_)
        obtain ⟨rfl, hb⟩ := hb
        exact wp_vret rfl dX12_acts_151 ⟨rfl, hb⟩
      · have hb := hb.2 c3
        obtain ⟨i20, hb⟩ := hb
        refine wp_aload_n 0 dX12_acts_109 rfl rfl ?_
        refine wp_dup dX12_acts_110 rfl ?_
        refine wp_getI dX12_acts_111 fl_X12_346 i20 ?_
        refine wp_iconst (v := 1) dX12_acts_114 (by decide) ?_
        refine wp_isub dX12_acts_115 ?_
        refine wp_putI dX12_acts_116 fl_X12_346 (Or.inl rfl) i20 ?_
        refine wp_topH (fun h21 e22 => ?_)
        have hb := hb h21 e22
        refine wp_goto (tgt := 151) dX12_acts_119 (by decide) ?_
        exact wp_vret rfl dX12_acts_151 ⟨rfl, hb⟩
    · have hb := hb.2 c2
      obtain ⟨i23, hb⟩ := hb
      refine wp_aload_n 0 dX12_acts_21 rfl rfl ?_
      obtain ⟨i24, hb⟩ := hb
      refine wp_getR dX12_acts_22 fl_X12_52 i23 (i24.ne (by decide)) ?_
      refine wp_aload_n 0 dX12_acts_25 rfl rfl ?_
      refine wp_getI dX12_acts_26 fl_X12_346 i23 ?_
      refine wp_iconst (v := 1) dX12_acts_29 (by decide) ?_
      refine wp_isub dX12_acts_30 ?_
      obtain ⟨b25, hb⟩ := hb
      refine wp_iaload dX12_acts_31 i24 b25 ?_
      refine wp_topi (fun v26 e27 => ?_)
      have hb := hb v26 e27
      refine wp_istore_n (lv2 := [(3, .int v26), (0, .ref x0), (1, .ref x1), (2, .int x2)]) dX12_acts_32 rfl (by decide) rfl ?_
      obtain ⟨i28, hb⟩ := hb
      refine wp_aload_n 2 dX12_acts_33 rfl rfl ?_
      obtain ⟨i29, hb⟩ := hb
      refine wp_getR dX12_acts_34 fl_X12_234 i28 (i29.ne (by decide)) ?_
      refine wp_iload_n 0 dX12_acts_37 rfl rfl ?_
      obtain ⟨b30, hb⟩ := hb
      refine wp_iaload dX12_acts_38 i29 b30 ?_
      refine wp_if_ne (tgt := 43) dX12_acts_39 (by decide) (fun c31 => ?_) (fun c31 => ?_)
      · have hb := hb.1 c31
        refine wp_aload_n 1 dX12_acts_43 rfl rfl ?_
        obtain ⟨i32, hb⟩ := hb
        refine wp_getR dX12_acts_44 fl_X12_56 i23 (i32.ne (by decide)) ?_
        refine wp_aload_n 1 dX12_acts_47 rfl rfl ?_
        refine wp_getI dX12_acts_48 fl_X12_346 i23 ?_
        refine wp_iconst (v := 1) dX12_acts_51 (by decide) ?_
        refine wp_isub dX12_acts_52 ?_
        refine wp_dup2_11 dX12_acts_53 rfl rfl ?_
        obtain ⟨b33, hb⟩ := hb
        refine wp_iaload dX12_acts_54 i32 b33 ?_
        refine wp_topi (fun v34 e35 => ?_)
        have hb := hb v34 e35
        refine wp_iconst (v := 1) dX12_acts_55 (by decide) ?_
        refine wp_iadd dX12_acts_56 ?_
        obtain ⟨b36, hb⟩ := hb
        refine wp_iastore dX12_acts_57 i32 b36 ?_
        refine wp_topH (fun h37 e38 => ?_)
        have hb := hb h37 e38
        refine wp_aload_n 1 dX12_acts_58 rfl rfl ?_
        obtain ⟨i39, hb⟩ := hb
        refine wp_getR dX12_acts_59 fl_X12_56 i23 (i39.ne (by decide)) ?_
        refine wp_aload_n 1 dX12_acts_62 rfl rfl ?_
        refine wp_getI dX12_acts_63 fl_X12_346 i23 ?_
        refine wp_iconst (v := 1) dX12_acts_66 (by decide) ?_
        refine wp_isub dX12_acts_67 ?_
        obtain ⟨b40, hb⟩ := hb
        refine wp_iaload dX12_acts_68 i39 b40 ?_
        refine wp_topi (fun v41 e42 => ?_)
        have hb := hb v41 e42
        refine wp_aload_n 2 dX12_acts_69 rfl rfl ?_
        obtain ⟨i43, hb⟩ := hb
        refine wp_getR dX12_acts_70 fl_X12_234 i28 (i43.ne (by decide)) ?_
        refine wp_iload_n 0 dX12_acts_73 rfl rfl ?_
        obtain ⟨b44, hb⟩ := hb
        refine wp_iaload dX12_acts_74 i43 b44 ?_
        refine wp_icmp_ge (tgt := 79) dX12_acts_75 (by decide) (fun c45 => ?_) (fun c45 => ?_)
        · have hb := hb.1 c45
          refine wp_aload_n 1 dX12_acts_79 rfl rfl ?_
          obtain ⟨i46, hb⟩ := hb
          refine wp_getR dX12_acts_80 fl_X12_56 i23 (i46.ne (by decide)) ?_
          refine wp_aload_n 1 dX12_acts_83 rfl rfl ?_
          refine wp_getI dX12_acts_84 fl_X12_346 i23 ?_
          refine wp_iconst (v := 1) dX12_acts_87 (by decide) ?_
          refine wp_isub dX12_acts_88 ?_
          refine wp_iconst (v := 0) dX12_acts_89 (by decide) ?_
          obtain ⟨b47, hb⟩ := hb
          refine wp_iastore dX12_acts_90 i46 b47 ?_
          refine wp_topH (fun h48 e49 => ?_)
          have hb := hb h48 e49
          refine wp_aload_n 1 dX12_acts_91 rfl rfl ?_
          refine wp_aload_n 2 dX12_acts_92 rfl rfl ?_
          refine wp_bipush (v := 24) dX12_acts_93 (by decide) ?_
          refine wp_iload_n 0 dX12_acts_95 rfl rfl ?_
          refine wp_iadd dX12_acts_96 ?_
          refine wp_callV (as := [.ref x1, .int (24 + v26)]) dX12_acts_97 cb_X12_does lk_X12_370 im_X12_does se_X12_does rfl (Nat.le_of_ble_eq_true rfl) ⟨by decide, by decide⟩ ⟨Nat.le_refl _, Nat.le_refl _, Nat.le_refl _⟩ i23 rfl (by decide) hb (fun r0 h51 hb => ?_)
          obtain ⟨rfl, hb⟩ := hb
          refine wp_goto (tgt := 151) dX12_acts_100 (by decide) ?_
          exact wp_vret rfl dX12_acts_151 ⟨rfl, hb⟩
        · have hb := hb.2 c45
          exact wp_vret rfl dX12_acts_78 ⟨rfl, hb⟩
      · have hb := hb.2 c31
        exact wp_vret rfl dX12_acts_42 ⟨rfl, hb⟩
  · have hb := hb.2 c1
    obtain ⟨i52, hb⟩ := hb
    refine wp_aload_n 0 dX12_acts_6 rfl rfl ?_
    obtain ⟨i53, hb⟩ := hb
    refine wp_aload_n 1 dX12_acts_7 rfl rfl ?_
    refine wp_iload_n 2 dX12_acts_8 rfl rfl ?_
    refine wp_callV (as := [.ref x1, .int x2]) dX12_acts_9 cb_X12_does lk_X12_370 im_X12_does se_X12_does rfl (Nat.le_of_ble_eq_true rfl) ⟨by decide, by decide⟩ ⟨Nat.le_refl _, Nat.le_refl _, Nat.le_refl _⟩ i52 rfl (by decide) hb (fun r0 h55 hb => ?_)
    obtain ⟨rfl, hb⟩ := hb
    refine wp_goto (tgt := 151) dX12_acts_12 (by decide) ?_
    exact wp_vret rfl dX12_acts_151 ⟨rfl, hb⟩
theorem c_X12_acts {l : Launch} {g : AG} {h : AH} {x0 : Nat} {x1 : Nat} {x2 : Int32}  {Q : AH → Prop} (hb : L_X12_acts_0 l g h x0 x1 x2  Q) : C_X12_acts l g h x0 x1 x2  Q := ax_met rfl (Nat.le_of_ble_eq_true rfl) hb
def C_X12_isAct (l : Launch) (g : AG) (h : AH) (x0 : Int32)  (Q : Int32 → AH → Prop) : Prop := Ct l g mX12_isAct 0 0 194 194 h [.int x0] (ax_QI Q)
def L_X12_isAct_0 (l : Launch) (g : AG) (h : AH) (x0 : Int32)  (Q : Int32 → AH → Prop) : Prop := Wp l g mX12_isAct 0 0 194 194 194 0 [(0, .int x0)] [] h (FM g 194 194 (ax_QI Q))
set_option maxRecDepth 100000 in
set_option maxHeartbeats 4000000 in
theorem s_X12_isAct_0 {l : Launch} {g : AG} {h : AH} {x0 : Int32}  {Q : Int32 → AH → Prop} (hb : ((x0 < 0 → (Q 0 h)) ∧ (¬ (x0 < 0) → (((27 ≤ x0 → (Q 0 h)) ∧ (¬ (27 ≤ x0) → (Q 1 h))))))) : L_X12_isAct_0 l g h x0  Q := by
  refine wp_iload_n 0 dX12_isAct_0 rfl rfl ?_
  refine wp_if_lt (tgt := 14) dX12_isAct_1 (by decide) (fun c1 => ?_) (fun c1 => ?_)
  · have hb := hb.1 c1
    refine wp_iconst (v := 0) dX12_isAct_14 (by decide) ?_
    exact wp_zret rfl dX12_isAct_15 (Or.inl rfl) ⟨_, rfl, hb⟩
  · have hb := hb.2 c1
    refine wp_iload_n 0 dX12_isAct_4 rfl rfl ?_
    refine wp_bipush (v := 27) dX12_isAct_5 (by decide) ?_
    refine wp_icmp_ge (tgt := 14) dX12_isAct_7 (by decide) (fun c2 => ?_) (fun c2 => ?_)
    · have hb := hb.1 c2
      refine wp_iconst (v := 0) dX12_isAct_14 (by decide) ?_
      exact wp_zret rfl dX12_isAct_15 (Or.inl rfl) ⟨_, rfl, hb⟩
    · have hb := hb.2 c2
      refine wp_iconst (v := 1) dX12_isAct_10 (by decide) ?_
      refine wp_goto (tgt := 15) dX12_isAct_11 (by decide) ?_
      exact wp_zret rfl dX12_isAct_15 (Or.inr rfl) ⟨_, rfl, hb⟩
theorem c_X12_isAct {l : Launch} {g : AG} {h : AH} {x0 : Int32}  {Q : Int32 → AH → Prop} (hb : L_X12_isAct_0 l g h x0  Q) : C_X12_isAct l g h x0  Q := ax_met rfl (Nat.le_of_ble_eq_true rfl) hb
