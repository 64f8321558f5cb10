def C_X12_button (l : Launch) (g : AG) (h : AH) (x0 : Nat) (x1 : Int32) (x2 : Int32) (x3 : Int32)  (Q : Int32 → AH → Prop) : Prop := Ct l g mX12_button 1 21 194 194 h [.ref x0, .int x1, .int x2, .int x3] (ax_QI Q)
def L_X12_button_0 (l : Launch) (g : AG) (h : AH) (x0 : Nat) (x1 : Int32) (x2 : Int32) (x3 : Int32)  (Q : Int32 → AH → Prop) : Prop := Wp l g mX12_button 1 21 194 194 194 0 [(0, .ref x0), (1, .int x1), (2, .int x2), (3, .int x3)] [] h (FM g 194 194 (ax_QI Q))
set_option maxRecDepth 100000 in
set_option maxHeartbeats 4000000 in
theorem s_X12_button_0 {l : Launch} {g : AG} {h : AH} {x0 : Nat} {x1 : Int32} {x2 : Int32} {x3 : Int32}  {Q : Int32 → AH → Prop} (hb : (Is 194 x0 11) ∧ ( ∀ h2 : AH, h2 = ax_setI h x0 0 0 → ( C_X12_isApp l g h2 x0 x1 (fun r6 h5 => ( ((r6 = 0 → (Q (-1) h5)) ∧ (¬ (r6 = 0) → (((x2 < 0 → (Q (-1) h5)) ∧ (¬ (x2 < 0) → ((Is 194 (h5.2.2 x0 4) 25) ∧ ( (vp_in x1 (ax_s (h5.2.2 x0 4)).2) ∧ ( (Is 194 (h5.2.2 (h5.2.2 x0 4) x1.toNatClampNeg) 9) ∧ ( ((x2 < h5.1 (h5.2.2 (h5.2.2 x0 4) x1.toNatClampNeg) 1 → ((Is 194 (h5.2.2 x0 4) 25) ∧ ( (vp_in x1 (ax_s (h5.2.2 x0 4)).2) ∧ ( (Is 194 (h5.2.2 (h5.2.2 x0 4) x1.toNatClampNeg) 9) ∧ ( ∀ v16 : Nat, v16 = (h5.2.2 (h5.2.2 x0 4) x1.toNatClampNeg) → ( ((¬ x3 = 0 → (((¬ x3 = 1 → (((¬ x3 = 2 → (Q (-1) h5)) ∧ (x3 = 2 → ((Is 194 (h5.2.2 v16 11) 20) ∧ ( (vp_in x2 (ax_s (h5.2.2 v16 11)).2) ∧ ( Q (h5.1 (h5.2.2 v16 11) x2.toNatClampNeg) h5))))))) ∧ (x3 = 1 → ((Is 194 (h5.2.2 v16 18) 20) ∧ ( (vp_in x2 (ax_s (h5.2.2 v16 18)).2) ∧ ( Q (h5.1 (h5.2.2 v16 18) x2.toNatClampNeg) h5))))))) ∧ (x3 = 0 → ((Is 194 (h5.2.2 v16 17) 20) ∧ ( (vp_in x2 (ax_s (h5.2.2 v16 17)).2) ∧ ( Q (h5.1 (h5.2.2 v16 17) x2.toNatClampNeg) h5))))))))))) ∧ (¬ (x2 < h5.1 (h5.2.2 (h5.2.2 x0 4) x1.toNatClampNeg) 1) → (Q (-1) h5))))))))))))))))) : L_X12_button_0 l g h x0 x1 x2 x3  Q := by
  obtain ⟨i1, hb⟩ := hb
  refine wp_aload_n 0 dX12_button_0 rfl rfl ?_
  refine wp_iconst (v := 0) dX12_button_1 (by decide) ?_
  refine wp_putI dX12_button_2 fl_X12_1 (Or.inl rfl) i1 ?_
  refine wp_topH (fun h2 e3 => ?_)
  have hb := hb h2 e3
  refine wp_aload_n 0 dX12_button_5 rfl rfl ?_
  refine wp_iload_n 1 dX12_button_6 rfl rfl ?_
  refine wp_callV (as := [.int x1]) dX12_button_7 cb_X12_isApp lk_X12_340 im_X12_isApp se_X12_isApp rfl (Nat.le_of_ble_eq_true rfl) ⟨by decide, by decide⟩ ⟨Nat.le_refl _, Nat.le_refl _, Nat.le_refl _⟩ i1 rfl (by decide) hb (fun r0 h5 hb => ?_)
  obtain ⟨r6, rfl, hb⟩ := hb
  refine wp_if_eq (tgt := 30) dX12_button_10 (by decide) (fun c7 => ?_) (fun c7 => ?_)
  · have hb := hb.1 c7
    refine wp_iconst (v := (-1)) dX12_button_30 (by decide) ?_
    exact wp_iret rfl dX12_button_31 ⟨_, rfl, hb⟩
  · have hb := hb.2 c7
    refine wp_iload_n 2 dX12_button_13 rfl rfl ?_
    refine wp_if_lt (tgt := 30) dX12_button_14 (by decide) (fun c8 => ?_) (fun c8 => ?_)
    · have hb := hb.1 c8
      refine wp_iconst (v := (-1)) dX12_button_30 (by decide) ?_
      exact wp_iret rfl dX12_button_31 ⟨_, rfl, hb⟩
    · have hb := hb.2 c8
      refine wp_iload_n 2 dX12_button_17 rfl rfl ?_
      refine wp_aload_n 0 dX12_button_18 rfl rfl ?_
      obtain ⟨i9, hb⟩ := hb
      refine wp_getR dX12_button_19 fl_X12_21 i1 (i9.ne (by decide)) ?_
      refine wp_iload_n 1 dX12_button_22 rfl rfl ?_
      obtain ⟨b10, hb⟩ := hb
      obtain ⟨i11, hb⟩ := hb
      refine wp_aaload25 dX12_button_23 i9 b10 (i11.ne (by decide)) ?_
      refine wp_getI dX12_button_24 fl_X12_208 i11 ?_
      refine wp_icmp_lt (tgt := 32) dX12_button_27 (by decide) (fun c12 => ?_) (fun c12 => ?_)
      · have hb := hb.1 c12
        refine wp_aload_n 0 dX12_button_32 rfl rfl ?_
        obtain ⟨i13, hb⟩ := hb
        refine wp_getR dX12_button_33 fl_X12_21 i1 (i13.ne (by decide)) ?_
        refine wp_iload_n 1 dX12_button_36 rfl rfl ?_
        obtain ⟨b14, hb⟩ := hb
        obtain ⟨i15, hb⟩ := hb
        refine wp_aaload25 dX12_button_37 i13 b14 (i15.ne (by decide)) ?_
        refine wp_topr (fun v16 e17 => ?_)
        have hb := hb v16 e17
        have i18 : Is 194 v16 9 := by rw [e17]; exact i15
        refine wp_astore (lv2 := [(4, .ref v16), (0, .ref x0), (1, .int x1), (2, .int x2), (3, .int x3)]) dX12_button_38 (by decide) rfl ?_
        refine wp_iload_n 4 dX12_button_40 rfl rfl ?_
        refine wp_if_ne (tgt := 54) dX12_button_41 (by decide) (fun c19 => ?_) (fun c19 => ?_)
        · have hb := hb.1 c19
          refine wp_iload_n 4 dX12_button_54 rfl rfl ?_
          refine wp_iconst (v := 1) dX12_button_55 (by decide) ?_
          refine wp_icmp_ne (tgt := 69) dX12_button_56 (by decide) (fun c20 => ?_) (fun c20 => ?_)
          · have hb := hb.1 c20
            refine wp_iload_n 4 dX12_button_69 rfl rfl ?_
            refine wp_iconst (v := 2) dX12_button_70 (by decide) ?_
            refine wp_icmp_ne (tgt := 84) dX12_button_71 (by decide) (fun c21 => ?_) (fun c21 => ?_)
            · have hb := hb.1 c21
              refine wp_iconst (v := (-1)) dX12_button_84 (by decide) ?_
              exact wp_iret rfl dX12_button_85 ⟨_, rfl, hb⟩
            · have hb := hb.2 c21
              refine wp_aload 0 dX12_button_74 rfl ?_
              obtain ⟨i22, hb⟩ := hb
              refine wp_getR dX12_button_76 fl_X12_237 i18 (i22.ne (by decide)) ?_
              refine wp_iload_n 3 dX12_button_79 rfl rfl ?_
              obtain ⟨b23, hb⟩ := hb
              refine wp_iaload dX12_button_80 i22 b23 ?_
              refine wp_goto (tgt := 85) dX12_button_81 (by decide) ?_
              exact wp_iret rfl dX12_button_85 ⟨_, rfl, hb⟩
          · have hb := hb.2 c20
            refine wp_aload 0 dX12_button_59 rfl ?_
            obtain ⟨i24, hb⟩ := hb
            refine wp_getR dX12_button_61 fl_X12_270 i18 (i24.ne (by decide)) ?_
            refine wp_iload_n 3 dX12_button_64 rfl rfl ?_
            obtain ⟨b25, hb⟩ := hb
            refine wp_iaload dX12_button_65 i24 b25 ?_
            refine wp_goto (tgt := 85) dX12_button_66 (by decide) ?_
            exact wp_iret rfl dX12_button_85 ⟨_, rfl, hb⟩
        · have hb := hb.2 c19
          refine wp_aload 0 dX12_button_44 rfl ?_
          obtain ⟨i26, hb⟩ := hb
          refine wp_getR dX12_button_46 fl_X12_267 i18 (i26.ne (by decide)) ?_
          refine wp_iload_n 3 dX12_button_49 rfl rfl ?_
          obtain ⟨b27, hb⟩ := hb
          refine wp_iaload dX12_button_50 i26 b27 ?_
          refine wp_goto (tgt := 85) dX12_button_51 (by decide) ?_
          exact wp_iret rfl dX12_button_85 ⟨_, rfl, hb⟩
      · have hb := hb.2 c12
        refine wp_iconst (v := (-1)) dX12_button_30 (by decide) ?_
        exact wp_iret rfl dX12_button_31 ⟨_, rfl, hb⟩
theorem c_X12_button {l : Launch} {g : AG} {h : AH} {x0 : Nat} {x1 : Int32} {x2 : Int32} {x3 : Int32}  {Q : Int32 → AH → Prop} (hb : L_X12_button_0 l g h x0 x1 x2 x3  Q) : C_X12_button l g h x0 x1 x2 x3  Q := ax_met rfl (Nat.le_of_ble_eq_true rfl) hb
def C_X12_unpack (l : Launch) (g : AG) (h : AH) (x0 : Nat) (x1 : Int64) (x3 : Int64)  (Q : AH → Prop) : Prop := Ct l g mX12_unpack 0 0 194 194 h [.ref x0, .long x1, .long x3] (ax_QV Q)
def L_X12_unpack_0 (l : Launch) (g : AG) (h : AH) (x0 : Nat) (x1 : Int64) (x3 : Int64)  (Q : AH → Prop) : Prop := Wp l g mX12_unpack 0 0 194 194 194 0 [(0, .ref x0), (1, .long x1), (3, .long x3)] [] h (FM g 194 194 (ax_QV Q))
def L_X12_unpack_25 (l : Launch) (g : AG) (h : AH) (x0 : Nat) (x1 : Int64) (x3 : Int64) (x5 : Int32)  (Q : AH → Prop) : Prop := Wp l g mX12_unpack 0 0 194 194 194 25 [(0, .ref x0), (1, .long x1), (3, .long x3), (5, .int x5)] [] h (FM g 194 194 (ax_QV Q))
def L_X12_unpack_79 (l : Launch) (g : AG) (h : AH) (x0 : Nat) (x3 : Int64) (x5 : Int32)  (Q : AH → Prop) : Prop := Wp l g mX12_unpack 0 0 194 194 194 79 [(0, .ref x0), (3, .long x3), (5, .int x5)] [] h (FM g 194 194 (ax_QV Q))
set_option maxRecDepth 100000 in
set_option maxHeartbeats 4000000 in
theorem s_X12_unpack_0 {l : Launch} {g : AG} {h : AH} {x0 : Nat} {x1 : Int64} {x3 : Int64}  {Q : AH → Prop} (hb : (Is 194 x0 11) ∧ ( ∀ h2 : AH, h2 = ax_setI h x0 19 ((jlshr x1 38).toInt32) → ( ∀ h4 : AH, h4 = ax_setI h2 x0 20 (((jlshr x1 35) &&& 7).toInt32) → ( L_X12_unpack_25 l g h4 x0 x1 x3 0  Q)))) : L_X12_unpack_0 l g h x0 x1 x3  Q := by
  obtain ⟨i1, hb⟩ := hb
  refine wp_aload_n 0 dX12_unpack_0 rfl rfl ?_
  refine wp_lload_n 1 dX12_unpack_1 rfl rfl ?_
  refine wp_bipush (v := 38) dX12_unpack_2 (by decide) ?_
  refine wp_lshr dX12_unpack_4 ?_
  refine wp_l2i dX12_unpack_5 ?_
  refine wp_putI dX12_unpack_6 fl_X12_343 (Or.inl rfl) i1 ?_
  refine wp_topH (fun h2 e3 => ?_)
  have hb := hb h2 e3
  refine wp_aload_n 0 dX12_unpack_9 rfl rfl ?_
  refine wp_lload_n 1 dX12_unpack_10 rfl rfl ?_
  refine wp_bipush (v := 35) dX12_unpack_11 (by decide) ?_
  refine wp_lshr dX12_unpack_13 ?_
  refine wp_ldc2 (v := 7) dX12_unpack_14 lk_X12_348 ?_
  refine wp_land dX12_unpack_17 ?_
  refine wp_l2i dX12_unpack_18 ?_
  refine wp_putI dX12_unpack_19 fl_X12_346 (Or.inl rfl) i1 ?_
  refine wp_topH (fun h4 e5 => ?_)
  have hb := hb h4 e5
  refine wp_iconst (v := 0) dX12_unpack_22 (by decide) ?_
  refine wp_istore (lv2 := [(5, .int 0), (0, .ref x0), (1, .long x1), (3, .long x3)]) dX12_unpack_23 (by decide) rfl ?_
  exact wp_sub [1, 2, 3, 0] rfl hb
set_option maxRecDepth 100000 in
set_option maxHeartbeats 4000000 in
theorem s_X12_unpack_25 {l : Launch} {g : AG} {h : AH} {x0 : Nat} {x1 : Int64} {x3 : Int64} {x5 : Int32}  {Q : AH → Prop} (hb : ((5 ≤ x5 → (L_X12_unpack_79 l g h x0 x3 0  Q)) ∧ (¬ (5 ≤ x5) → (∀ v7 : Int32, v7 = (((jlshr x1 (7 * (4 - x5))) &&& 127).toInt32) → ( (Is 194 x0 11) ∧ ( (Is 194 (h.2.2 x0 21) 20) ∧ ( (vp_in x5 (ax_s (h.2.2 x0 21)).2) ∧ ( ∀ h12 : AH, h12 = ax_setI h (h.2.2 x0 21) x5.toNatClampNeg (jishr v7 4) → ( (Is 194 (h12.2.2 x0 22) 20) ∧ ( (vp_in x5 (ax_s (h12.2.2 x0 22)).2) ∧ ( ∀ h16 : AH, h16 = ax_setI h12 (h12.2.2 x0 22) x5.toNatClampNeg (v7 &&& 15) → ( ∀ v18 : Int32, v18 = x5 + (1) → ( L_X12_unpack_25 l g h16 x0 x1 x3 v18  Q))))))))))))) : L_X12_unpack_25 l g h x0 x1 x3 x5  Q := by
  refine wp_iload 3 dX12_unpack_25 rfl ?_
  refine wp_iconst (v := 5) dX12_unpack_27 (by decide) ?_
  refine wp_icmp_ge (tgt := 76) dX12_unpack_28 (by decide) (fun c6 => ?_) (fun c6 => ?_)
  · have hb := hb.1 c6
    refine wp_iconst (v := 0) dX12_unpack_76 (by decide) ?_
    refine wp_istore (lv2 := [(5, .int 0), (0, .ref x0), (1, .long x1), (3, .long x3)]) dX12_unpack_77 (by decide) rfl ?_
    exact wp_sub [1, 3, 0] rfl hb
  · have hb := hb.2 c6
    refine wp_lload_n 1 dX12_unpack_31 rfl rfl ?_
    refine wp_bipush (v := 7) dX12_unpack_32 (by decide) ?_
    refine wp_iconst (v := 4) dX12_unpack_34 (by decide) ?_
    refine wp_iload 3 dX12_unpack_35 rfl ?_
    refine wp_isub dX12_unpack_37 ?_
    refine wp_imul dX12_unpack_38 ?_
    refine wp_lshr dX12_unpack_39 ?_
    refine wp_ldc2 (v := 127) dX12_unpack_40 lk_X12_350 ?_
    refine wp_land dX12_unpack_43 ?_
    refine wp_l2i dX12_unpack_44 ?_
    refine wp_topi (fun v7 e8 => ?_)
    have hb := hb v7 e8
    refine wp_istore (lv2 := [(6, .int v7), (0, .ref x0), (1, .long x1), (3, .long x3), (5, .int x5)]) dX12_unpack_45 (by decide) rfl ?_
    obtain ⟨i9, hb⟩ := hb
    refine wp_aload_n 1 dX12_unpack_47 rfl rfl ?_
    obtain ⟨i10, hb⟩ := hb
    refine wp_getR dX12_unpack_48 fl_X12_52 i9 (i10.ne (by decide)) ?_
    refine wp_iload 4 dX12_unpack_51 rfl ?_
    refine wp_iload 0 dX12_unpack_53 rfl ?_
    refine wp_iconst (v := 4) dX12_unpack_55 (by decide) ?_
    refine wp_ishr dX12_unpack_56 ?_
    obtain ⟨b11, hb⟩ := hb
    refine wp_iastore dX12_unpack_57 i10 b11 ?_
    refine wp_topH (fun h12 e13 => ?_)
    have hb := hb h12 e13
    refine wp_aload_n 1 dX12_unpack_58 rfl rfl ?_
    obtain ⟨i14, hb⟩ := hb
    refine wp_getR dX12_unpack_59 fl_X12_56 i9 (i14.ne (by decide)) ?_
    refine wp_iload 4 dX12_unpack_62 rfl ?_
    refine wp_iload 0 dX12_unpack_64 rfl ?_
    refine wp_bipush (v := 15) dX12_unpack_66 (by decide) ?_
    refine wp_iand dX12_unpack_68 ?_
    obtain ⟨b15, hb⟩ := hb
    refine wp_iastore dX12_unpack_69 i14 b15 ?_
    refine wp_topH (fun h16 e17 => ?_)
    have hb := hb h16 e17
    obtain ⟨v18, e19⟩ : ∃ y : Int32, y = x5 + (1) := ⟨_, rfl⟩
    have hb := hb v18 e19
    refine wp_iinc (v := v18) (lv2 := [(5, .int v18), (6, .int v7), (0, .ref x0), (1, .long x1), (3, .long x3)]) 4 dX12_unpack_70 rfl (by rw [e19]; rfl) (by decide) rfl ?_
    refine wp_goto (tgt := 25) dX12_unpack_73 (by decide) ?_
    exact wp_sub [2, 3, 4, 0] rfl hb
set_option maxRecDepth 100000 in
set_option maxHeartbeats 4000000 in
theorem s_X12_unpack_79 {l : Launch} {g : AG} {h : AH} {x0 : Nat} {x3 : Int64} {x5 : Int32}  {Q : AH → Prop} (hb : ((6 ≤ x5 → (Q h)) ∧ (¬ (6 ≤ x5) → ((Is 194 x0 11) ∧ ( (Is 194 (h.2.2 x0 23) 20) ∧ ( (vp_in x5 (ax_s (h.2.2 x0 23)).2) ∧ ( ∀ h24 : AH, h24 = ax_setI h (h.2.2 x0 23) x5.toNatClampNeg (((jlshr x3 (4 * (5 - x5))) &&& 15).toInt32) → ( ∀ v26 : Int32, v26 = x5 + (1) → ( L_X12_unpack_79 l g h24 x0 x3 v26  Q))))))))) : L_X12_unpack_79 l g h x0 x3 x5  Q := by
  refine wp_iload 2 dX12_unpack_79 rfl ?_
  refine wp_bipush (v := 6) dX12_unpack_81 (by decide) ?_
  refine wp_icmp_ge (tgt := 112) dX12_unpack_83 (by decide) (fun c20 => ?_) (fun c20 => ?_)
  · have hb := hb.1 c20
    exact wp_vret rfl dX12_unpack_112 ⟨rfl, hb⟩
  · have hb := hb.2 c20
    obtain ⟨i21, hb⟩ := hb
    refine wp_aload_n 0 dX12_unpack_86 rfl rfl ?_
    obtain ⟨i22, hb⟩ := hb
    refine wp_getR dX12_unpack_87 fl_X12_59 i21 (i22.ne (by decide)) ?_
    refine wp_iload 2 dX12_unpack_90 rfl ?_
    refine wp_lload_n 1 dX12_unpack_92 rfl rfl ?_
    refine wp_iconst (v := 4) dX12_unpack_93 (by decide) ?_
    refine wp_iconst (v := 5) dX12_unpack_94 (by decide) ?_
    refine wp_iload 2 dX12_unpack_95 rfl ?_
    refine wp_isub dX12_unpack_97 ?_
    refine wp_imul dX12_unpack_98 ?_
    refine wp_lshr dX12_unpack_99 ?_
    refine wp_ldc2 (v := 15) dX12_unpack_100 lk_X12_352 ?_
    refine wp_land dX12_unpack_103 ?_
    refine wp_l2i dX12_unpack_104 ?_
    obtain ⟨b23, hb⟩ := hb
    refine wp_iastore dX12_unpack_105 i22 b23 ?_
    refine wp_topH (fun h24 e25 => ?_)
    have hb := hb h24 e25
    obtain ⟨v26, e27⟩ : ∃ y : Int32, y = x5 + (1) := ⟨_, rfl⟩
    have hb := hb v26 e27
    refine wp_iinc (v := v26) (lv2 := [(5, .int v26), (0, .ref x0), (3, .long x3)]) 2 dX12_unpack_106 rfl (by rw [e27]; rfl) (by decide) rfl ?_
    refine wp_goto (tgt := 79) dX12_unpack_109 (by decide) ?_
    exact wp_sub [1, 2, 0] rfl hb
theorem c_X12_unpack {l : Launch} {g : AG} {h : AH} {x0 : Nat} {x1 : Int64} {x3 : Int64}  {Q : AH → Prop} (hb : L_X12_unpack_0 l g h x0 x1 x3  Q) : C_X12_unpack l g h x0 x1 x3  Q := ax_met rfl (Nat.le_of_ble_eq_true rfl) hb
