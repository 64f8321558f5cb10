def C_X12_state (l : Launch) (g : AG) (h : AH) (x0 : Nat) (x1 : Int32) (x2 : Int32)  (Q : Int32 → AH → Prop) : Prop := Ct l g mX12_state 2 48 194 194 h [.ref x0, .int x1, .int x2] (ax_QI Q)
def L_X12_state_0 (l : Launch) (g : AG) (h : AH) (x0 : Nat) (x1 : Int32) (x2 : Int32)  (Q : Int32 → AH → Prop) : Prop := Wp l g mX12_state 2 48 194 194 194 0 [(0, .ref x0), (1, .int x1), (2, .int x2)] [] h (FM g 194 194 (ax_QI Q))
set_option maxRecDepth 100000 in
set_option maxHeartbeats 4000000 in
theorem s_X12_state_0 {l : Launch} {g : AG} {h : AH} {x0 : Nat} {x1 : Int32} {x2 : Int32}  {Q : Int32 → AH → Prop} (hb : (Is 194 x0 11) ∧ ( ∀ h2 : AH, h2 = ax_setI h x0 0 0 → ( C_X12_isApp l g h2 x0 x1 (fun r6 h5 => ( ((¬ r6 = 0 → ((Is 194 (h5.2.2 x0 7) 21) ∧ ( (vp_in x1 (ax_s (h5.2.2 x0 7)).2) ∧ ( (Is 194 (h5.2.2 x0 8) 21) ∧ ( (vp_in x1 (ax_s (h5.2.2 x0 8)).2) ∧ ( C_X12_unpack l g h5 x0 (h5.2.1 (h5.2.2 x0 7) x1.toNatClampNeg) (h5.2.1 (h5.2.2 x0 8) x1.toNatClampNeg) (fun h13 => ( ((x2 = 0 → (Q (h13.1 x0 19) h13)) ∧ (¬ x2 = 0 → (((x2 = 1 → (Q (h13.1 x0 20) h13)) ∧ (¬ x2 = 1 → (((x2 = 2 → (((h13.1 x0 20 ≤ 0 → (Q (-1) h13)) ∧ (¬ (h13.1 x0 20 ≤ 0) → ((Is 194 (h13.2.2 x0 21) 20) ∧ ( (vp_in ((h13.1 x0 20) - 1) (ax_s (h13.2.2 x0 21)).2) ∧ ( ∀ v20 : Int32, v20 = (h13.1 (h13.2.2 x0 21) ((h13.1 x0 20) - 1).toNatClampNeg) → ( Q v20 h13)))))))) ∧ (¬ x2 = 2 → (((x2 = 3 → (((h13.1 x0 20 ≤ 0 → (Q (-1) h13)) ∧ (¬ (h13.1 x0 20 ≤ 0) → ((Is 194 (h13.2.2 x0 22) 20) ∧ ( (vp_in ((h13.1 x0 20) - 1) (ax_s (h13.2.2 x0 22)).2) ∧ ( ∀ v26 : Int32, v26 = (h13.1 (h13.2.2 x0 22) ((h13.1 x0 20) - 1).toNatClampNeg) → ( Q v26 h13)))))))) ∧ (¬ x2 = 3 → (((x2 = 4 → ((Is 194 (h13.2.2 x0 4) 25) ∧ ( (vp_in x1 (ax_s (h13.2.2 x0 4)).2) ∧ ( (Is 194 (h13.2.2 (h13.2.2 x0 4) x1.toNatClampNeg) 9) ∧ ( C_X12_possible l g h13 x0 (h13.2.2 (h13.2.2 x0 4) x1.toNatClampNeg) (fun r34 h33 => ( C_X12_bits l g h33 r34 (fun r37 h36 => ( Q r37 h36))))))))) ∧ (¬ x2 = 4 → (Q (-1) h13))))))))))))))))))))))) ∧ (r6 = 0 → (Q (-1) h5)))))))) : L_X12_state_0 l g h x0 x1 x2  Q := by
  obtain ⟨i1, hb⟩ := hb
  refine wp_aload_n 0 dX12_state_0 rfl rfl ?_
  refine wp_iconst (v := 0) dX12_state_1 (by decide) ?_
  refine wp_putI dX12_state_2 fl_X12_1 (Or.inl rfl) i1 ?_
  refine wp_topH (fun h2 e3 => ?_)
  have hb := hb h2 e3
  refine wp_aload_n 0 dX12_state_5 rfl rfl ?_
  refine wp_iload_n 1 dX12_state_6 rfl rfl ?_
  refine wp_callV (as := [.int x1]) dX12_state_7 cb_X12_isApp lk_X12_340 im_X12_isApp se_X12_isApp rfl (Nat.le_of_ble_eq_true rfl) ⟨by decide, by decide⟩ ⟨Nat.le_refl _, Nat.le_refl _, Nat.le_refl _⟩ i1 rfl (by decide) hb (fun r0 h5 hb => ?_)
  obtain ⟨r6, rfl, hb⟩ := hb
  refine wp_if_ne (tgt := 15) dX12_state_10 (by decide) (fun c7 => ?_) (fun c7 => ?_)
  · have hb := hb.1 c7
    refine wp_aload_n 0 dX12_state_15 rfl rfl ?_
    refine wp_aload_n 0 dX12_state_16 rfl rfl ?_
    obtain ⟨i8, hb⟩ := hb
    refine wp_getR dX12_state_17 fl_X12_34 i1 (i8.ne (by decide)) ?_
    refine wp_iload_n 1 dX12_state_20 rfl rfl ?_
    obtain ⟨b9, hb⟩ := hb
    refine wp_laload dX12_state_21 i8 b9 ?_
    refine wp_aload_n 0 dX12_state_22 rfl rfl ?_
    obtain ⟨i10, hb⟩ := hb
    refine wp_getR dX12_state_23 fl_X12_38 i1 (i10.ne (by decide)) ?_
    refine wp_iload_n 1 dX12_state_26 rfl rfl ?_
    obtain ⟨b11, hb⟩ := hb
    refine wp_laload dX12_state_27 i10 b11 ?_
    refine wp_callV (as := [.long (h5.2.1 (h5.2.2 x0 7) x1.toNatClampNeg), .long (h5.2.1 (h5.2.2 x0 8) x1.toNatClampNeg)]) dX12_state_28 cb_X12_unpack lk_X12_377 im_X12_unpack se_X12_unpack rfl (Nat.le_of_ble_eq_true rfl) ⟨by decide, by decide⟩ ⟨Nat.le_refl _, Nat.le_refl _, Nat.le_refl _⟩ i1 rfl (by decide) hb (fun r0 h13 hb => ?_)
    obtain ⟨rfl, hb⟩ := hb
    refine wp_iload_n 2 dX12_state_31 rfl rfl ?_
    refine wp_case 0 (fun c14 => ?_) (fun c14 => ?_)
    · have hb := hb.1 c14
      refine wp_tableIn (v := 0) (tgt := 68) dX12_state_32 c14 (by decide) (by decide) rfl (by decide) ?_
      refine wp_aload_n 0 dX12_state_68 rfl rfl ?_
      refine wp_getI dX12_state_69 fl_X12_343 i1 ?_
      exact wp_iret rfl dX12_state_72 ⟨_, rfl, hb⟩
    · have hb := hb.2 c14
      refine wp_case 1 (fun c15 => ?_) (fun c15 => ?_)
      · have hb := hb.1 c15
        refine wp_tableIn (v := 1) (tgt := 73) dX12_state_32 c15 (by decide) (by decide) rfl (by decide) ?_
        refine wp_aload_n 0 dX12_state_73 rfl rfl ?_
        refine wp_getI dX12_state_74 fl_X12_346 i1 ?_
        exact wp_iret rfl dX12_state_77 ⟨_, rfl, hb⟩
      · have hb := hb.2 c15
        refine wp_case 2 (fun c16 => ?_) (fun c16 => ?_)
        · have hb := hb.1 c16
          refine wp_tableIn (v := 2) (tgt := 78) dX12_state_32 c16 (by decide) (by decide) rfl (by decide) ?_
          refine wp_aload_n 0 dX12_state_78 rfl rfl ?_
          refine wp_getI dX12_state_79 fl_X12_346 i1 ?_
          refine wp_if_le (tgt := 99) dX12_state_82 (by decide) (fun c17 => ?_) (fun c17 => ?_)
          · have hb := hb.1 c17
            refine wp_iconst (v := (-1)) dX12_state_99 (by decide) ?_
            exact wp_iret rfl dX12_state_100 ⟨_, rfl, hb⟩
          · have hb := hb.2 c17
            refine wp_aload_n 0 dX12_state_85 rfl rfl ?_
            obtain ⟨i18, hb⟩ := hb
            refine wp_getR dX12_state_86 fl_X12_52 i1 (i18.ne (by decide)) ?_
            refine wp_aload_n 0 dX12_state_89 rfl rfl ?_
            refine wp_getI dX12_state_90 fl_X12_346 i1 ?_
            refine wp_iconst (v := 1) dX12_state_93 (by decide) ?_
            refine wp_isub dX12_state_94 ?_
            obtain ⟨b19, hb⟩ := hb
            refine wp_iaload dX12_state_95 i18 b19 ?_
            refine wp_topi (fun v20 e21 => ?_)
            have hb := hb v20 e21
            refine wp_goto (tgt := 100) dX12_state_96 (by decide) ?_
            exact wp_iret rfl dX12_state_100 ⟨_, rfl, hb⟩
        · have hb := hb.2 c16
          refine wp_case 3 (fun c22 => ?_) (fun c22 => ?_)
          · have hb := hb.1 c22
            refine wp_tableIn (v := 3) (tgt := 101) dX12_state_32 c22 (by decide) (by decide) rfl (by decide) ?_
            refine wp_aload_n 0 dX12_state_101 rfl rfl ?_
            refine wp_getI dX12_state_102 fl_X12_346 i1 ?_
            refine wp_if_le (tgt := 122) dX12_state_105 (by decide) (fun c23 => ?_) (fun c23 => ?_)
            · have hb := hb.1 c23
              refine wp_iconst (v := (-1)) dX12_state_122 (by decide) ?_
              exact wp_iret rfl dX12_state_123 ⟨_, rfl, hb⟩
            · have hb := hb.2 c23
              refine wp_aload_n 0 dX12_state_108 rfl rfl ?_
              obtain ⟨i24, hb⟩ := hb
              refine wp_getR dX12_state_109 fl_X12_56 i1 (i24.ne (by decide)) ?_
              refine wp_aload_n 0 dX12_state_112 rfl rfl ?_
              refine wp_getI dX12_state_113 fl_X12_346 i1 ?_
              refine wp_iconst (v := 1) dX12_state_116 (by decide) ?_
              refine wp_isub dX12_state_117 ?_
              obtain ⟨b25, hb⟩ := hb
              refine wp_iaload dX12_state_118 i24 b25 ?_
              refine wp_topi (fun v26 e27 => ?_)
              have hb := hb v26 e27
              refine wp_goto (tgt := 123) dX12_state_119 (by decide) ?_
              exact wp_iret rfl dX12_state_123 ⟨_, rfl, hb⟩
          · have hb := hb.2 c22
            refine wp_case 4 (fun c28 => ?_) (fun c28 => ?_)
            · have hb := hb.1 c28
              refine wp_tableIn (v := 4) (tgt := 124) dX12_state_32 c28 (by decide) (by decide) rfl (by decide) ?_
              refine wp_aload_n 0 dX12_state_124 rfl rfl ?_
              refine wp_aload_n 0 dX12_state_125 rfl rfl ?_
              obtain ⟨i29, hb⟩ := hb
              refine wp_getR dX12_state_126 fl_X12_21 i1 (i29.ne (by decide)) ?_
              refine wp_iload_n 1 dX12_state_129 rfl rfl ?_
              obtain ⟨b30, hb⟩ := hb
              obtain ⟨i31, hb⟩ := hb
              refine wp_aaload25 dX12_state_130 i29 b30 (i31.ne (by decide)) ?_
              refine wp_callV (as := [.ref (h13.2.2 (h13.2.2 x0 4) x1.toNatClampNeg)]) dX12_state_131 cb_X12_possible lk_X12_381 im_X12_possible se_X12_possible rfl (Nat.le_of_ble_eq_true rfl) ⟨by decide, by decide⟩ ⟨Nat.le_refl _, Nat.le_refl _, Nat.le_refl _⟩ i1 rfl (by decide) hb (fun r0 h33 hb => ?_)
              obtain ⟨r34, rfl, hb⟩ := hb
              refine wp_callS (as := [.int r34]) dX12_state_134 cb_X12_bits lk_X12_387 st_X12_bits rfl (Nat.le_of_ble_eq_true rfl) ⟨by decide, by decide⟩ ⟨Nat.le_refl _, Nat.le_refl _, Nat.le_refl _⟩ hb (fun r0 h36 hb => ?_)
              obtain ⟨r37, rfl, hb⟩ := hb
              exact wp_iret rfl dX12_state_137 ⟨_, rfl, hb⟩
            · have hb := hb.2 c28
              refine wp_tableOut (tgt := 138) dX12_state_32 (by have zc14 := lv_neT (k := 0) (a := 0) c14 rfl; have zc15 := lv_neT (k := 1) (a := 1) c15 rfl; have zc16 := lv_neT (k := 2) (a := 2) c16 rfl; have zc22 := lv_neT (k := 3) (a := 3) c22 rfl; have zc28 := lv_neT (k := 4) (a := 4) c28 rfl; omega) (by decide) ?_
              refine wp_iconst (v := (-1)) dX12_state_138 (by decide) ?_
              exact wp_iret rfl dX12_state_139 ⟨_, rfl, hb⟩
  · have hb := hb.2 c7
    refine wp_iconst (v := (-1)) dX12_state_13 (by decide) ?_
    exact wp_iret rfl dX12_state_14 ⟨_, rfl, hb⟩
theorem c_X12_state {l : Launch} {g : AG} {h : AH} {x0 : Nat} {x1 : Int32} {x2 : Int32}  {Q : Int32 → AH → Prop} (hb : L_X12_state_0 l g h x0 x1 x2  Q) : C_X12_state l g h x0 x1 x2  Q := ax_met rfl (Nat.le_of_ble_eq_true rfl) hb
def C_X12_var (l : Launch) (g : AG) (h : AH) (x0 : Nat) (x1 : Int32) (x2 : Int32)  (Q : Int32 → AH → Prop) : Prop := Ct l g mX12_var 1 26 194 194 h [.ref x0, .int x1, .int x2] (ax_QI Q)
def L_X12_var_0 (l : Launch) (g : AG) (h : AH) (x0 : Nat) (x1 : Int32) (x2 : Int32)  (Q : Int32 → AH → Prop) : Prop := Wp l g mX12_var 1 26 194 194 194 0 [(0, .ref x0), (1, .int x1), (2, .int x2)] [] h (FM g 194 194 (ax_QI Q))
set_option maxRecDepth 100000 in
set_option maxHeartbeats 4000000 in
theorem s_X12_var_0 {l : Launch} {g : AG} {h : AH} {x0 : Nat} {x1 : Int32} {x2 : Int32}  {Q : Int32 → AH → Prop} (hb : (Is 194 x0 11) ∧ ( ∀ h2 : AH, h2 = ax_setI h x0 0 0 → ( C_X12_isApp l g h2 x0 x1 (fun r6 h5 => ( ((r6 = 0 → (Q (-1) h5)) ∧ (¬ (r6 = 0) → (((x2 < 0 → (Q (-1) h5)) ∧ (¬ (x2 < 0) → ((Is 194 (h5.2.2 x0 4) 25) ∧ ( (vp_in x1 (ax_s (h5.2.2 x0 4)).2) ∧ ( (Is 194 (h5.2.2 (h5.2.2 x0 4) x1.toNatClampNeg) 9) ∧ ( ((x2 < h5.1 (h5.2.2 (h5.2.2 x0 4) x1.toNatClampNeg) 2 → ((Is 194 (h5.2.2 x0 7) 21) ∧ ( (vp_in x1 (ax_s (h5.2.2 x0 7)).2) ∧ ( (Is 194 (h5.2.2 x0 8) 21) ∧ ( (vp_in x1 (ax_s (h5.2.2 x0 8)).2) ∧ ( C_X12_unpack l g h5 x0 (h5.2.1 (h5.2.2 x0 7) x1.toNatClampNeg) (h5.2.1 (h5.2.2 x0 8) x1.toNatClampNeg) (fun h18 => ( (Is 194 (h18.2.2 x0 23) 20) ∧ ( (vp_in x2 (ax_s (h18.2.2 x0 23)).2) ∧ ( Q (h18.1 (h18.2.2 x0 23) x2.toNatClampNeg) h18)))))))))) ∧ (¬ (x2 < h5.1 (h5.2.2 (h5.2.2 x0 4) x1.toNatClampNeg) 2) → (Q (-1) h5))))))))))))))))) : L_X12_var_0 l g h x0 x1 x2  Q := by
  obtain ⟨i1, hb⟩ := hb
  refine wp_aload_n 0 dX12_var_0 rfl rfl ?_
  refine wp_iconst (v := 0) dX12_var_1 (by decide) ?_
  refine wp_putI dX12_var_2 fl_X12_1 (Or.inl rfl) i1 ?_
  refine wp_topH (fun h2 e3 => ?_)
  have hb := hb h2 e3
  refine wp_aload_n 0 dX12_var_5 rfl rfl ?_
  refine wp_iload_n 1 dX12_var_6 rfl rfl ?_
  refine wp_callV (as := [.int x1]) dX12_var_7 cb_X12_isApp lk_X12_340 im_X12_isApp se_X12_isApp rfl (Nat.le_of_ble_eq_true rfl) ⟨by decide, by decide⟩ ⟨Nat.le_refl _, Nat.le_refl _, Nat.le_refl _⟩ i1 rfl (by decide) hb (fun r0 h5 hb => ?_)
  obtain ⟨r6, rfl, hb⟩ := hb
  refine wp_if_eq (tgt := 30) dX12_var_10 (by decide) (fun c7 => ?_) (fun c7 => ?_)
  · have hb := hb.1 c7
    refine wp_iconst (v := (-1)) dX12_var_30 (by decide) ?_
    exact wp_iret rfl dX12_var_31 ⟨_, rfl, hb⟩
  · have hb := hb.2 c7
    refine wp_iload_n 2 dX12_var_13 rfl rfl ?_
    refine wp_if_lt (tgt := 30) dX12_var_14 (by decide) (fun c8 => ?_) (fun c8 => ?_)
    · have hb := hb.1 c8
      refine wp_iconst (v := (-1)) dX12_var_30 (by decide) ?_
      exact wp_iret rfl dX12_var_31 ⟨_, rfl, hb⟩
    · have hb := hb.2 c8
      refine wp_iload_n 2 dX12_var_17 rfl rfl ?_
      refine wp_aload_n 0 dX12_var_18 rfl rfl ?_
      obtain ⟨i9, hb⟩ := hb
      refine wp_getR dX12_var_19 fl_X12_21 i1 (i9.ne (by decide)) ?_
      refine wp_iload_n 1 dX12_var_22 rfl rfl ?_
      obtain ⟨b10, hb⟩ := hb
      obtain ⟨i11, hb⟩ := hb
      refine wp_aaload25 dX12_var_23 i9 b10 (i11.ne (by decide)) ?_
      refine wp_getI dX12_var_24 fl_X12_198 i11 ?_
      refine wp_icmp_lt (tgt := 32) dX12_var_27 (by decide) (fun c12 => ?_) (fun c12 => ?_)
      · have hb := hb.1 c12
        refine wp_aload_n 0 dX12_var_32 rfl rfl ?_
        refine wp_aload_n 0 dX12_var_33 rfl rfl ?_
        obtain ⟨i13, hb⟩ := hb
        refine wp_getR dX12_var_34 fl_X12_34 i1 (i13.ne (by decide)) ?_
        refine wp_iload_n 1 dX12_var_37 rfl rfl ?_
        obtain ⟨b14, hb⟩ := hb
        refine wp_laload dX12_var_38 i13 b14 ?_
        refine wp_aload_n 0 dX12_var_39 rfl rfl ?_
        obtain ⟨i15, hb⟩ := hb
        refine wp_getR dX12_var_40 fl_X12_38 i1 (i15.ne (by decide)) ?_
        refine wp_iload_n 1 dX12_var_43 rfl rfl ?_
        obtain ⟨b16, hb⟩ := hb
        refine wp_laload dX12_var_44 i15 b16 ?_
        refine wp_callV (as := [.long (h5.2.1 (h5.2.2 x0 7) x1.toNatClampNeg), .long (h5.2.1 (h5.2.2 x0 8) x1.toNatClampNeg)]) dX12_var_45 cb_X12_unpack lk_X12_377 im_X12_unpack se_X12_unpack rfl (Nat.le_of_ble_eq_true rfl) ⟨by decide, by decide⟩ ⟨Nat.le_refl _, Nat.le_refl _, Nat.le_refl _⟩ i1 rfl (by decide) hb (fun r0 h18 hb => ?_)
        obtain ⟨rfl, hb⟩ := hb
        refine wp_aload_n 0 dX12_var_48 rfl rfl ?_
        obtain ⟨i19, hb⟩ := hb
        refine wp_getR dX12_var_49 fl_X12_59 i1 (i19.ne (by decide)) ?_
        refine wp_iload_n 2 dX12_var_52 rfl rfl ?_
        obtain ⟨b20, hb⟩ := hb
        refine wp_iaload dX12_var_53 i19 b20 ?_
        exact wp_iret rfl dX12_var_54 ⟨_, rfl, hb⟩
      · have hb := hb.2 c12
        refine wp_iconst (v := (-1)) dX12_var_30 (by decide) ?_
        exact wp_iret rfl dX12_var_31 ⟨_, rfl, hb⟩
theorem c_X12_var {l : Launch} {g : AG} {h : AH} {x0 : Nat} {x1 : Int32} {x2 : Int32}  {Q : Int32 → AH → Prop} (hb : L_X12_var_0 l g h x0 x1 x2  Q) : C_X12_var l g h x0 x1 x2  Q := ax_met rfl (Nat.le_of_ble_eq_true rfl) hb
