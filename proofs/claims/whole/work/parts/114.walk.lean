def C_X12_unpack (l : Launch) (g : AG) (h : AH) (x0 : Nat) (x1 : Int64) (x3 : Int64)  (Q : AH → Prop) : Prop := Ct l g mX12_unpack 0 0 194 194 h [.ref x0, .long x1, .long x3] (ax_QV Q)
def L_X12_unpack_0 (l : Launch) (g : AG) (h : AH) (x0 : Nat) (x1 : Int64) (x3 : Int64)  (Q : AH → Prop) : Prop := Wp l g mX12_unpack 0 0 194 194 194 0 [(0, .ref x0), (1, .long x1), (3, .long x3)] [] h (FM g 194 194 (ax_QV Q))
def L_X12_unpack_25 (l : Launch) (g : AG) (h : AH) (x0 : Nat) (x1 : Int64) (x3 : Int64) (x5 : Int32)  (Q : AH → Prop) : Prop := Wp l g mX12_unpack 0 0 194 194 194 25 [(0, .ref x0), (1, .long x1), (3, .long x3), (5, .int x5)] [] h (FM g 194 194 (ax_QV Q))
def L_X12_unpack_79 (l : Launch) (g : AG) (h : AH) (x0 : Nat) (x3 : Int64) (x5 : Int32)  (Q : AH → Prop) : Prop := Wp l g mX12_unpack 0 0 194 194 194 79 [(0, .ref x0), (3, .long x3), (5, .int x5)] [] h (FM g 194 194 (ax_QV Q))
set_option maxRecDepth 100000 in
set_option maxHeartbeats 4000000 in
theorem s_X12_unpack_0 {l : Launch} {g : AG} {h : AH} {x0 : Nat} {x1 : Int64} {x3 : Int64}  {Q : AH → Prop} (hb : (Is 194 x0 11) ∧ ( ∀ h2 : AH, h2 = ax_setI h x0 19 ((jlshr x1 38).toInt32) → ( ∀ h4 : AH, h4 = ax_setI h2 x0 20 (((jlshr x1 35) &&& 7).toInt32) → ( L_X12_unpack_25 l g h4 x0 x1 x3 0  Q)))) : L_X12_unpack_0 l g h x0 x1 x3  Q := by
  obtain ⟨i1, hb⟩ := hb
  refine wp_aload_n 0 dX12_unpack_0 rfl rfl ?_
  refine wp_lload_n 1 dX12_unpack_1 rfl rfl ?_
  refine wp_bipush (v := 38) dX12_unpack_2 (by decide) ?_
  refine wp_lshr dX12_unpack_4 ?_
  refine wp_l2i dX12_unpack_5 ?_
  refine wp_putI dX12_unpack_6 fl_X12_343 (Or.inl rfl) i1 ?_
  refine wp_topH (fun h2 e3 => ?_)
  have hb := hb h2 e3
  refine wp_aload_n 0 dX12_unpack_9 rfl rfl ?_
  refine wp_lload_n 1 dX12_unpack_10 rfl rfl ?_
  refine wp_bipush (v := 35) dX12_unpack_11 (by decide) ?_
  refine wp_lshr dX12_unpack_13 ?_
  refine wp_ldc2 (v := 7) dX12_unpack_14 lk_X12_348 ?_
  refine wp_land dX12_unpack_17 ?_
  refine wp_l2i dX12_unpack_18 ?_
  refine wp_putI dX12_unpack_19 fl_X12_346 (Or.inl rfl) i1 ?_
  refine wp_topH (fun h4 e5 => ?_)
  have hb := hb h4 e5
  refine wp_iconst (v := 0) dX12_unpack_22 (by decide) ?_
  refine wp_istore (lv2 := [(5, .int 0), (0, .ref x0), (1, .long x1), (3, .long x3)]) dX12_unpack_23 (by decide) rfl ?_
  exact wp_sub [1, 2, 3, 0] rfl hb
set_option maxRecDepth 100000 in
set_option maxHeartbeats 4000000 in
theorem s_X12_unpack_25 {l : Launch} {g : AG} {h : AH} {x0 : Nat} {x1 : Int64} {x3 : Int64} {x5 : Int32}  {Q : AH → Prop} (hb : ((5 ≤ x5 → (L_X12_unpack_79 l g h x0 x3 0  Q)) ∧ (¬ (5 ≤ x5) → (∀ v7 : Int32, v7 = (((jlshr x1 (7 * (4 - x5))) &&& 127).toInt32) → ( (Is 194 x0 11) ∧ ( (Is 194 (h.2.2 x0 21) 20) ∧ ( (vp_in x5 (ax_s (h.2.2 x0 21)).2) ∧ ( ∀ h12 : AH, h12 = ax_setI h (h.2.2 x0 21) x5.toNatClampNeg (jishr v7 4) → ( (Is 194 (h12.2.2 x0 22) 20) ∧ ( (vp_in x5 (ax_s (h12.2.2 x0 22)).2) ∧ ( ∀ h16 : AH, h16 = ax_setI h12 (h12.2.2 x0 22) x5.toNatClampNeg (v7 &&& 15) → ( ∀ v18 : Int32, v18 = x5 + (1) → ( L_X12_unpack_25 l g h16 x0 x1 x3 v18  Q))))))))))))) : L_X12_unpack_25 l g h x0 x1 x3 x5  Q := by
  refine wp_iload 3 dX12_unpack_25 rfl ?_
  refine wp_iconst (v := 5) dX12_unpack_27 (by decide) ?_
  refine wp_icmp_ge (tgt := 76) dX12_unpack_28 (by decide) (fun c6 => ?_) (fun c6 => ?_)
  · have hb := hb.1 c6
    refine wp_iconst (v := 0) dX12_unpack_76 (by decide) ?_
    refine wp_istore (lv2 := [(5, .int 0), (0, .ref x0), (1, .long x1), (3, .long x3)]) dX12_unpack_77 (by decide) rfl ?_
    exact wp_sub [1, 3, 0] rfl hb
  · have hb := hb.2 c6
    refine wp_lload_n 1 dX12_unpack_31 rfl rfl ?_
    refine wp_bipush (v := 7) dX12_unpack_32 (by decide) ?_
    refine wp_iconst (v := 4) dX12_unpack_34 (by decide) ?_
    refine wp_iload 3 dX12_unpack_35 rfl ?_
    refine wp_isub dX12_unpack_37 ?_
    refine wp_imul dX12_unpack_38 ?_
    refine wp_lshr dX12_unpack_39 ?_
    refine wp_ldc2 (v := 127) dX12_unpack_40 lk_X12_350 ?_
    refine wp_land dX12_unpack_43 ?_
    refine wp_l2i dX12_unpack_44 ?_
    refine wp_topi (fun v7 e8 => ?_)
    have hb := hb v7 e8
    refine wp_istore (lv2 := [(6, .int v7), (0, .ref x0), (1, .long x1), (3, .long x3), (5, .int x5)]) dX12_unpack_45 (by decide) rfl ?_
    obtain ⟨i9, hb⟩ := hb
    refine wp_aload_n 1 dX12_unpack_47 rfl rfl ?_
    obtain ⟨i10, hb⟩ := hb
    refine wp_getR dX12_unpack_48 fl_X12_52 i9 (i10.ne (by decide)) ?_
    refine wp_iload 4 dX12_unpack_51 rfl ?_
    refine wp_iload 0 dX12_unpack_53 rfl ?_
    refine wp_iconst (v := 4) dX12_unpack_55 (by decide) ?_
    refine wp_ishr dX12_unpack_56 ?_
    obtain ⟨b11, hb⟩ := hb
    refine wp_iastore dX12_unpack_57 i10 b11 ?_
    refine wp_topH (fun h12 e13 => ?_)
    have hb := hb h12 e13
    refine wp_aload_n 1 dX12_unpack_58 rfl rfl ?_
    obtain ⟨i14, hb⟩ := hb
    refine wp_getR dX12_unpack_59 fl_X12_56 i9 (i14.ne (by decide)) ?_
    refine wp_iload 4 dX12_unpack_62 rfl ?_
    refine wp_iload 0 dX12_unpack_64 rfl ?_
    refine wp_bipush (v := 15) dX12_unpack_66 (by decide) ?_
    refine wp_iand dX12_unpack_68 ?_
    obtain ⟨b15, hb⟩ := hb
    refine wp_iastore dX12_unpack_69 i14 b15 ?_
    refine wp_topH (fun h16 e17 => ?_)
    have hb := hb h16 e17
    obtain ⟨v18, e19⟩ : ∃ y : Int32, y = x5 + (1) := ⟨_, rfl⟩
    have hb := hb v18 e19
    refine wp_iinc (v := v18) (lv2 := [(5, .int v18), (6, .int v7), (0, .ref x0), (1, .long x1), (3, .long x3)]) 4 dX12_unpack_70 rfl (by rw [e19]; rfl) (by decide) rfl ?_
    refine wp_goto (tgt := 25) dX12_unpack_73 (by decide) ?_
    exact wp_sub [2, 3, 4, 0] rfl hb
set_option maxRecDepth 100000 in
set_option maxHeartbeats 4000000 in
theorem s_X12_unpack_79 {l : Launch} {g : AG} {h : AH} {x0 : Nat} {x3 : Int64} {x5 : Int32}  {Q : AH → Prop} (hb : ((6 ≤ x5 → (Q h)) ∧ (¬ (6 ≤ x5) → ((Is 194 x0 11) ∧ ( (Is 194 (h.2.2 x0 23) 20) ∧ ( (vp_in x5 (ax_s (h.2.2 x0 23)).2) ∧ ( ∀ h24 : AH, h24 = ax_setI h (h.2.2 x0 23) x5.toNatClampNeg (((jlshr x3 (4 * (5 - x5))) &&& 15).toInt32) → ( ∀ v26 : Int32, v26 = x5 + (1) → ( L_X12_unpack_79 l g h24 x0 x3 v26  Q))))))))) : L_X12_unpack_79 l g h x0 x3 x5  Q := by
  refine wp_iload 2 dX12_unpack_79 rfl ?_
  refine wp_bipush (v := 6) dX12_unpack_81 (by decide) ?_
  refine wp_icmp_ge (tgt := 112) dX12_unpack_83 (by decide) (fun c20 => ?_) (fun c20 => ?_)
  · have hb := hb.1 c20
    exact wp_vret rfl dX12_unpack_112 ⟨rfl, hb⟩
  · have hb := hb.2 c20
    obtain ⟨i21, hb⟩ := hb
    refine wp_aload_n 0 dX12_unpack_86 rfl rfl ?_
    obtain ⟨i22, hb⟩ := hb
    refine wp_getR dX12_unpack_87 fl_X12_59 i21 (i22.ne (by decide)) ?_
    refine wp_iload 2 dX12_unpack_90 rfl ?_
    refine wp_lload_n 1 dX12_unpack_92 rfl rfl ?_
    refine wp_iconst (v := 4) dX12_unpack_93 (by decide) ?_
    refine wp_iconst (v := 5) dX12_unpack_94 (by decide) ?_
    refine wp_iload 2 dX12_unpack_95 rfl ?_
    refine wp_isub dX12_unpack_97 ?_
    refine wp_imul dX12_unpack_98 ?_
    refine wp_lshr dX12_unpack_99 ?_
    refine wp_ldc2 (v := 15) dX12_unpack_100 lk_X12_352 ?_
    refine wp_land dX12_unpack_103 ?_
    refine wp_l2i dX12_unpack_104 ?_
    obtain ⟨b23, hb⟩ := hb
    refine wp_iastore dX12_unpack_105 i22 b23 ?_
    refine wp_topH (fun h24 e25 => ?_)
    have hb := hb h24 e25
    obtain ⟨v26, e27⟩ : ∃ y : Int32, y = x5 + (1) := ⟨_, rfl⟩
    have hb := hb v26 e27
    refine wp_iinc (v := v26) (lv2 := [(5, .int v26), (0, .ref x0), (3, .long x3)]) 2 dX12_unpack_106 rfl (by rw [e27]; rfl) (by decide) rfl ?_
    refine wp_goto (tgt := 79) dX12_unpack_109 (by decide) ?_
    exact wp_sub [1, 2, 0] rfl hb
theorem c_X12_unpack {l : Launch} {g : AG} {h : AH} {x0 : Nat} {x1 : Int64} {x3 : Int64}  {Q : AH → Prop} (hb : L_X12_unpack_0 l g h x0 x1 x3  Q) : C_X12_unpack l g h x0 x1 x3  Q := ax_met rfl rfl (Nat.le_of_ble_eq_true rfl) hb
def C_X12_pressed (l : Launch) (g : AG) (h : AH) (x0 : Nat) (x1 : Nat)  (Q : Int32 → AH → Prop) : Prop := Ct l g mX12_pressed 0 0 194 194 h [.ref x0, .ref x1] (ax_QI Q)
def L_X12_pressed_0 (l : Launch) (g : AG) (h : AH) (x0 : Nat) (x1 : Nat)  (Q : Int32 → AH → Prop) : Prop := Wp l g mX12_pressed 0 0 194 194 194 0 [(0, .ref x0), (1, .ref x1)] [] h (FM g 194 194 (ax_QI Q))
def L_X12_pressed_13 (l : Launch) (g : AG) (h : AH) (x0 : Nat) (x1 : Nat) (x2 : Int32) (x3 : Int32)  (Q : Int32 → AH → Prop) : Prop := Wp l g mX12_pressed 0 0 194 194 194 13 [(0, .ref x0), (1, .ref x1), (2, .int x2), (3, .int x3)] [] h (FM g 194 194 (ax_QI Q))
def L_X12_pressed_53 (l : Launch) (g : AG) (h : AH) (x0 : Nat) (x1 : Nat) (x2 : Int32) (x3 : Int32) (x4 : Int32) (x5 : Int32)  (Q : Int32 → AH → Prop) : Prop := Wp l g mX12_pressed 0 0 194 194 194 53 [(0, .ref x0), (1, .ref x1), (2, .int x2), (3, .int x3), (4, .int x4), (5, .int x5)] [] h (FM g 194 194 (ax_QI Q))
set_option maxRecDepth 100000 in
set_option maxHeartbeats 4000000 in
theorem s_X12_pressed_0 {l : Launch} {g : AG} {h : AH} {x0 : Nat} {x1 : Nat}  {Q : Int32 → AH → Prop} (hb : (Is 194 x0 11) ∧ ( ((h.1 x0 19 ≤ 0 → (L_X12_pressed_13 l g h x0 x1 0 0  Q)) ∧ (¬ (h.1 x0 19 ≤ 0) → (Q 0 h))))) : L_X12_pressed_0 l g h x0 x1  Q := by
  obtain ⟨i1, hb⟩ := hb
  refine wp_aload_n 0 dX12_pressed_0 rfl rfl ?_
  refine wp_getI dX12_pressed_1 fl_X12_343 i1 ?_
  refine wp_if_le (tgt := 9) dX12_pressed_4 (by decide) (fun c2 => ?_) (fun c2 => ?_)
  · have hb := hb.1 c2
    refine wp_iconst (v := 0) dX12_pressed_9 (by decide) ?_
    refine wp_istore_n (lv2 := [(2, .int 0), (0, .ref x0), (1, .ref x1)]) dX12_pressed_10 rfl (by decide) rfl ?_
    refine wp_iconst (v := 0) dX12_pressed_11 (by decide) ?_
    refine wp_istore_n (lv2 := [(3, .int 0), (2, .int 0), (0, .ref x0), (1, .ref x1)]) dX12_pressed_12 rfl (by decide) rfl ?_
    exact wp_sub [2, 3, 1, 0] rfl hb
  · have hb := hb.2 c2
    refine wp_iconst (v := 0) dX12_pressed_7 (by decide) ?_
    exact wp_iret rfl dX12_pressed_8 ⟨_, rfl, hb⟩
set_option maxRecDepth 100000 in
set_option maxHeartbeats 4000000 in
theorem s_X12_pressed_13 {l : Launch} {g : AG} {h : AH} {x0 : Nat} {x1 : Nat} {x2 : Int32} {x3 : Int32}  {Q : Int32 → AH → Prop} (hb : (Is 194 x1 9) ∧ ( ((h.1 x1 1 ≤ x3 → (Q x2 h)) ∧ (¬ (h.1 x1 1 ≤ x3) → ((Is 194 (h.2.2 x1 17) 20) ∧ ( (vp_in x3 (ax_s (h.2.2 x1 17)).2) ∧ ( (Is 194 x0 11) ∧ ( (Is 194 (h.2.2 x0 21) 20) ∧ ( (vp_in ((h.1 x0 20) - 1) (ax_s (h.2.2 x0 21)).2) ∧ ( ∀ v10 : Int32, v10 = (h.1 (h.2.2 x0 21) ((h.1 x0 20) - 1).toNatClampNeg) → ( ((¬ h.1 (h.2.2 x1 17) x3.toNatClampNeg = v10 → (∀ v13 : Int32, v13 = (3 * x3) → ( L_X12_pressed_53 l g h x0 x1 x2 x3 0 v13  Q))) ∧ (h.1 (h.2.2 x1 17) x3.toNatClampNeg = v10 → (∀ v15 : Int32, v15 = (3 * x3) → ( L_X12_pressed_53 l g h x0 x1 x2 x3 1 v15  Q))))))))))))))) : L_X12_pressed_13 l g h x0 x1 x2 x3  Q := by
  refine wp_iload_n 3 dX12_pressed_13 rfl rfl ?_
  obtain ⟨i3, hb⟩ := hb
  refine wp_aload_n 1 dX12_pressed_14 rfl rfl ?_
  refine wp_getI dX12_pressed_15 fl_X12_208 i3 ?_
  refine wp_icmp_ge (tgt := 181) dX12_pressed_18 (by decide) (fun c4 => ?_) (fun c4 => ?_)
  · have hb := hb.1 c4
    refine wp_iload_n 2 dX12_pressed_181 rfl rfl ?_
    exact wp_iret rfl dX12_pressed_182 ⟨_, rfl, hb⟩
  · have hb := hb.2 c4
    refine wp_aload_n 1 dX12_pressed_21 rfl rfl ?_
    obtain ⟨i5, hb⟩ := hb
    refine wp_getR dX12_pressed_22 fl_X12_267 i3 (i5.ne (by decide)) ?_
    refine wp_iload_n 3 dX12_pressed_25 rfl rfl ?_
    obtain ⟨b6, hb⟩ := hb
    refine wp_iaload dX12_pressed_26 i5 b6 ?_
    obtain ⟨i7, hb⟩ := hb
    refine wp_aload_n 0 dX12_pressed_27 rfl rfl ?_
    obtain ⟨i8, hb⟩ := hb
    refine wp_getR dX12_pressed_28 fl_X12_52 i7 (i8.ne (by decide)) ?_
    refine wp_aload_n 0 dX12_pressed_31 rfl rfl ?_
    refine wp_getI dX12_pressed_32 fl_X12_346 i7 ?_
    refine wp_iconst (v := 1) dX12_pressed_35 (by decide) ?_
    refine wp_isub dX12_pressed_36 ?_
    obtain ⟨b9, hb⟩ := hb
    refine wp_iaload dX12_pressed_37 i8 b9 ?_
    refine wp_topi (fun v10 e11 => ?_)
    have hb := hb v10 e11
    refine wp_icmp_ne (tgt := 45) dX12_pressed_38 (by decide) (fun c12 => ?_) (fun c12 => ?_)
    · have hb := hb.1 c12
      refine wp_iconst (v := 0) dX12_pressed_45 (by decide) ?_
      refine wp_istore (lv2 := [(4, .int 0), (0, .ref x0), (1, .ref x1), (2, .int x2), (3, .int x3)]) dX12_pressed_46 (by decide) rfl ?_
      refine wp_iconst (v := 3) dX12_pressed_48 (by decide) ?_
      refine wp_iload_n 4 dX12_pressed_49 rfl rfl ?_
      refine wp_imul dX12_pressed_50 ?_
      refine wp_topi (fun v13 e14 => ?_)
      have hb := hb v13 e14
      refine wp_istore (lv2 := [(5, .int v13), (4, .int 0), (0, .ref x0), (1, .ref x1), (2, .int x2), (3, .int x3)]) dX12_pressed_51 (by decide) rfl ?_
      exact wp_sub [2, 3, 4, 5, 1, 0] rfl hb
    · have hb := hb.2 c12
      refine wp_iconst (v := 1) dX12_pressed_41 (by decide) ?_
      refine wp_goto (tgt := 46) dX12_pressed_42 (by decide) ?_
      refine wp_istore (lv2 := [(4, .int 1), (0, .ref x0), (1, .ref x1), (2, .int x2), (3, .int x3)]) dX12_pressed_46 (by decide) rfl ?_
      refine wp_iconst (v := 3) dX12_pressed_48 (by decide) ?_
      refine wp_iload_n 4 dX12_pressed_49 rfl rfl ?_
      refine wp_imul dX12_pressed_50 ?_
      refine wp_topi (fun v15 e16 => ?_)
      have hb := hb v15 e16
      refine wp_istore (lv2 := [(5, .int v15), (4, .int 1), (0, .ref x0), (1, .ref x1), (2, .int x2), (3, .int x3)]) dX12_pressed_51 (by decide) rfl ?_
      exact wp_sub [2, 3, 4, 5, 1, 0] rfl hb
set_option maxRecDepth 100000 in
set_option maxHeartbeats 4000000 in
theorem s_X12_pressed_53 {l : Launch} {g : AG} {h : AH} {x0 : Nat} {x1 : Nat} {x2 : Int32} {x3 : Int32} {x4 : Int32} {x5 : Int32}  {Q : Int32 → AH → Prop} (hb : (Is 194 x1 9) ∧ ( (Is 194 (h.2.2 x1 18) 20) ∧ ( (vp_in x3 (ax_s (h.2.2 x1 18)).2) ∧ ( (((3 * x3) + (h.1 (h.2.2 x1 18) x3.toNatClampNeg) ≤ x5 → (((x4 = 0 → (∀ v22 : Int32, v22 = (x2 ||| 0) → ( ∀ v24 : Int32, v24 = x3 + (1) → ( L_X12_pressed_13 l g h x0 x1 v22 v24  Q)))) ∧ (¬ (x4 = 0) → (∀ v26 : Int32, v26 = (x2 ||| (jishl 1 x3)) → ( ∀ v28 : Int32, v28 = x3 + (1) → ( L_X12_pressed_13 l g h x0 x1 v26 v28  Q))))))) ∧ (¬ ((3 * x3) + (h.1 (h.2.2 x1 18) x3.toNatClampNeg) ≤ x5) → ((Is 194 x0 11) ∧ ( (Is 194 (h.2.2 x0 23) 20) ∧ ( (Is 194 (h.2.2 x1 19) 20) ∧ ( (vp_in x5 (ax_s (h.2.2 x1 19)).2) ∧ ( (vp_in (h.1 (h.2.2 x1 19) x5.toNatClampNeg) (ax_s (h.2.2 x0 23)).2) ∧ ( ∀ v35 : Int32, v35 = (h.1 (h.2.2 x0 23) (h.1 (h.2.2 x1 19) x5.toNatClampNeg).toNatClampNeg) → ( (Is 194 (h.2.2 x1 21) 20) ∧ ( (vp_in x5 (ax_s (h.2.2 x1 21)).2) ∧ ( ∀ v39 : Int32, v39 = (h.1 (h.2.2 x1 21) x5.toNatClampNeg) → ( ((x4 = 0 → (∀ v42 : Int32, v42 = x5 + (1) → ( L_X12_pressed_53 l g h x0 x1 x2 x3 0 v42  Q))) ∧ (¬ (x4 = 0) → ((Is 194 (h.2.2 x1 20) 20) ∧ ( (vp_in x5 (ax_s (h.2.2 x1 20)).2) ∧ ( ((¬ h.1 (h.2.2 x1 20) x5.toNatClampNeg = 61 → ((Is 194 (h.2.2 x1 20) 20) ∧ ( (vp_in x5 (ax_s (h.2.2 x1 20)).2) ∧ ( ((¬ h.1 (h.2.2 x1 20) x5.toNatClampNeg = 60 → (((v35 ≤ v39 → (∀ v51 : Int32, v51 = x5 + (1) → ( L_X12_pressed_53 l g h x0 x1 x2 x3 0 v51  Q))) ∧ (¬ (v35 ≤ v39) → (∀ v53 : Int32, v53 = x5 + (1) → ( L_X12_pressed_53 l g h x0 x1 x2 x3 1 v53  Q)))))) ∧ (h.1 (h.2.2 x1 20) x5.toNatClampNeg = 60 → (((v39 ≤ v35 → (∀ v56 : Int32, v56 = x5 + (1) → ( L_X12_pressed_53 l g h x0 x1 x2 x3 0 v56  Q))) ∧ (¬ (v39 ≤ v35) → (∀ v58 : Int32, v58 = x5 + (1) → ( L_X12_pressed_53 l g h x0 x1 x2 x3 1 v58  Q))))))))))) ∧ (h.1 (h.2.2 x1 20) x5.toNatClampNeg = 61 → (((¬ v35 = v39 → (∀ v61 : Int32, v61 = x5 + (1) → ( L_X12_pressed_53 l g h x0 x1 x2 x3 0 v61  Q))) ∧ (v35 = v39 → (∀ v63 : Int32, v63 = x5 + (1) → ( L_X12_pressed_53 l g h x0 x1 x2 x3 1 v63  Q)))))))))))))))))))))))))))) : L_X12_pressed_53 l g h x0 x1 x2 x3 x4 x5  Q := by
  refine wp_iload 5 dX12_pressed_53 rfl ?_
  refine wp_iconst (v := 3) dX12_pressed_55 (by decide) ?_
  refine wp_iload_n 3 dX12_pressed_56 rfl rfl ?_
  refine wp_imul dX12_pressed_57 ?_
  obtain ⟨i17, hb⟩ := hb
  refine wp_aload_n 1 dX12_pressed_58 rfl rfl ?_
  obtain ⟨i18, hb⟩ := hb
  refine wp_getR dX12_pressed_59 fl_X12_270 i17 (i18.ne (by decide)) ?_
  refine wp_iload_n 3 dX12_pressed_62 rfl rfl ?_
  obtain ⟨b19, hb⟩ := hb
  refine wp_iaload dX12_pressed_63 i18 b19 ?_
  refine wp_iadd dX12_pressed_64 ?_
  refine wp_icmp_ge (tgt := 160) dX12_pressed_65 (by decide) (fun c20 => ?_) (fun c20 => ?_)
  · have hb := hb.1 c20
    refine wp_iload_n 2 dX12_pressed_160 rfl rfl ?_
    refine wp_iload 4 dX12_pressed_161 rfl ?_
    refine wp_if_eq (tgt := 172) dX12_pressed_163 (by decide) (fun c21 => ?_) (fun c21 => ?_)
    · have hb := hb.1 c21
      refine wp_iconst (v := 0) dX12_pressed_172 (by decide) ?_
      refine wp_ior dX12_pressed_173 ?_
      refine wp_topi (fun v22 e23 => ?_)
      have hb := hb v22 e23
      refine wp_istore_n (lv2 := [(2, .int v22), (0, .ref x0), (1, .ref x1), (3, .int x3), (4, .int x4), (5, .int x5)]) dX12_pressed_174 rfl (by decide) rfl ?_
      obtain ⟨v24, e25⟩ : ∃ y : Int32, y = x3 + (1) := ⟨_, rfl⟩
      have hb := hb v24 e25
      refine wp_iinc (v := v24) (lv2 := [(3, .int v24), (2, .int v22), (0, .ref x0), (1, .ref x1), (4, .int x4), (5, .int x5)]) 3 dX12_pressed_175 rfl (by rw [e25]; rfl) (by decide) rfl ?_
      refine wp_goto (tgt := 13) dX12_pressed_178 (by decide) ?_
      exact wp_sub [2, 3, 1, 0] rfl hb
    · have hb := hb.2 c21
      refine wp_iconst (v := 1) dX12_pressed_166 (by decide) ?_
      refine wp_iload_n 3 dX12_pressed_167 rfl rfl ?_
      refine wp_ishl dX12_pressed_168 ?_
      refine wp_goto (tgt := 173) dX12_pressed_169 (by decide) ?_
      refine wp_ior dX12_pressed_173 ?_
      refine wp_topi (fun v26 e27 => ?_)
      have hb := hb v26 e27
      refine wp_istore_n (lv2 := [(2, .int v26), (0, .ref x0), (1, .ref x1), (3, .int x3), (4, .int x4), (5, .int x5)]) dX12_pressed_174 rfl (by decide) rfl ?_
      obtain ⟨v28, e29⟩ : ∃ y : Int32, y = x3 + (1) := ⟨_, rfl⟩
      have hb := hb v28 e29
      refine wp_iinc (v := v28) (lv2 := [(3, .int v28), (2, .int v26), (0, .ref x0), (1, .ref x1), (4, .int x4), (5, .int x5)]) 3 dX12_pressed_175 rfl (by rw [e29]; rfl) (by decide) rfl ?_
      refine wp_goto (tgt := 13) dX12_pressed_178 (by decide) ?_
      exact wp_sub [2, 3, 1, 0] rfl hb
  · have hb := hb.2 c20
    obtain ⟨i30, hb⟩ := hb
    refine wp_aload_n 0 dX12_pressed_68 rfl rfl ?_
    obtain ⟨i31, hb⟩ := hb
    refine wp_getR dX12_pressed_69 fl_X12_59 i30 (i31.ne (by decide)) ?_
    refine wp_aload_n 1 dX12_pressed_72 rfl rfl ?_
    obtain ⟨i32, hb⟩ := hb
    refine wp_getR dX12_pressed_73 fl_X12_291 i17 (i32.ne (by decide)) ?_
    refine wp_iload 5 dX12_pressed_76 rfl ?_
    obtain ⟨b33, hb⟩ := hb
    refine wp_iaload dX12_pressed_78 i32 b33 ?_
    obtain ⟨b34, hb⟩ := hb
    refine wp_iaload dX12_pressed_79 i31 b34 ?_
    refine wp_topi (fun v35 e36 => ?_)
    have hb := hb v35 e36
    refine wp_istore (lv2 := [(6, .int v35), (0, .ref x0), (1, .ref x1), (2, .int x2), (3, .int x3), (4, .int x4), (5, .int x5)]) dX12_pressed_80 (by decide) rfl ?_
    refine wp_aload_n 2 dX12_pressed_82 rfl rfl ?_
    obtain ⟨i37, hb⟩ := hb
    refine wp_getR dX12_pressed_83 fl_X12_297 i17 (i37.ne (by decide)) ?_
    refine wp_iload 6 dX12_pressed_86 rfl ?_
    obtain ⟨b38, hb⟩ := hb
    refine wp_iaload dX12_pressed_88 i37 b38 ?_
    refine wp_topi (fun v39 e40 => ?_)
    have hb := hb v39 e40
    refine wp_istore (lv2 := [(7, .int v39), (6, .int v35), (0, .ref x0), (1, .ref x1), (2, .int x2), (3, .int x3), (4, .int x4), (5, .int x5)]) dX12_pressed_89 (by decide) rfl ?_
    refine wp_iload 6 dX12_pressed_91 rfl ?_
    refine wp_if_eq (tgt := 151) dX12_pressed_93 (by decide) (fun c41 => ?_) (fun c41 => ?_)
    · have hb := hb.1 c41
      refine wp_iconst (v := 0) dX12_pressed_151 (by decide) ?_
      refine wp_istore (lv2 := [(4, .int 0), (7, .int v39), (6, .int v35), (0, .ref x0), (1, .ref x1), (2, .int x2), (3, .int x3), (5, .int x5)]) dX12_pressed_152 (by decide) rfl ?_
      obtain ⟨v42, e43⟩ : ∃ y : Int32, y = x5 + (1) := ⟨_, rfl⟩
      have hb := hb v42 e43
      refine wp_iinc (v := v42) (lv2 := [(5, .int v42), (4, .int 0), (7, .int v39), (6, .int v35), (0, .ref x0), (1, .ref x1), (2, .int x2), (3, .int x3)]) 7 dX12_pressed_154 rfl (by rw [e43]; rfl) (by decide) rfl ?_
      refine wp_goto (tgt := 53) dX12_pressed_157 (by decide) ?_
      exact wp_sub [4, 5, 6, 7, 1, 0] rfl hb
    · have hb := hb.2 c41
      refine wp_aload_n 3 dX12_pressed_96 rfl rfl ?_
      obtain ⟨i44, hb⟩ := hb
      refine wp_getR dX12_pressed_97 fl_X12_294 i17 (i44.ne (by decide)) ?_
      refine wp_iload 7 dX12_pressed_100 rfl ?_
      obtain ⟨b45, hb⟩ := hb
      refine wp_iaload dX12_pressed_102 i44 b45 ?_
      refine wp_bipush (v := 61) dX12_pressed_103 (by decide) ?_
      refine wp_icmp_ne (tgt := 118) dX12_pressed_105 (by decide) (fun c46 => ?_) (fun c46 => ?_)
      · have hb := hb.1 c46
        refine wp_aload_n 3 dX12_pressed_118 rfl rfl ?_
        obtain ⟨i47, hb⟩ := hb
        refine wp_getR dX12_pressed_119 fl_X12_294 i17 (i47.ne (by decide)) ?_
        refine wp_iload 7 dX12_pressed_122 rfl ?_
        obtain ⟨b48, hb⟩ := hb
        refine wp_iaload dX12_pressed_124 i47 b48 ?_
        refine wp_bipush (v := 60) dX12_pressed_125 (by decide) ?_
        refine wp_icmp_ne (tgt := 140) dX12_pressed_127 (by decide) (fun c49 => ?_) (fun c49 => ?_)
        · have hb := hb.1 c49
          refine wp_iload 1 dX12_pressed_140 rfl ?_
          refine wp_iload 0 dX12_pressed_142 rfl ?_
          refine wp_icmp_le (tgt := 151) dX12_pressed_144 (by decide) (fun c50 => ?_) (fun c50 => ?_)
          · have hb := hb.1 c50
            refine wp_iconst (v := 0) dX12_pressed_151 (by decide) ?_
            refine wp_istore (lv2 := [(4, .int 0), (7, .int v39), (6, .int v35), (0, .ref x0), (1, .ref x1), (2, .int x2), (3, .int x3), (5, .int x5)]) dX12_pressed_152 (by decide) rfl ?_
            obtain ⟨v51, e52⟩ : ∃ y : Int32, y = x5 + (1) := ⟨_, rfl⟩
            have hb := hb v51 e52
            refine wp_iinc (v := v51) (lv2 := [(5, .int v51), (4, .int 0), (7, .int v39), (6, .int v35), (0, .ref x0), (1, .ref x1), (2, .int x2), (3, .int x3)]) 7 dX12_pressed_154 rfl (by rw [e52]; rfl) (by decide) rfl ?_
            refine wp_goto (tgt := 53) dX12_pressed_157 (by decide) ?_
            exact wp_sub [4, 5, 6, 7, 1, 0] rfl hb
          · have hb := hb.2 c50
            refine wp_iconst (v := 1) dX12_pressed_147 (by decide) ?_
            refine wp_goto (tgt := 152) dX12_pressed_148 (by decide) ?_
            refine wp_istore (lv2 := [(4, .int 1), (7, .int v39), (6, .int v35), (0, .ref x0), (1, .ref x1), (2, .int x2), (3, .int x3), (5, .int x5)]) dX12_pressed_152 (by decide) rfl ?_
            obtain ⟨v53, e54⟩ : ∃ y : Int32, y = x5 + (1) := ⟨_, rfl⟩
            have hb := hb v53 e54
            refine wp_iinc (v := v53) (lv2 := [(5, .int v53), (4, .int 1), (7, .int v39), (6, .int v35), (0, .ref x0), (1, .ref x1), (2, .int x2), (3, .int x3)]) 7 dX12_pressed_154 rfl (by rw [e54]; rfl) (by decide) rfl ?_
            refine wp_goto (tgt := 53) dX12_pressed_157 (by decide) ?_
            exact wp_sub [4, 5, 6, 7, 1, 0] rfl hb
        · have hb := hb.2 c49
          refine wp_iload 1 dX12_pressed_130 rfl ?_
          refine wp_iload 0 dX12_pressed_132 rfl ?_
          refine wp_icmp_ge (tgt := 151) dX12_pressed_134 (by decide) (fun c55 => ?_) (fun c55 => ?_)
          · have hb := hb.1 c55
            refine wp_iconst (v := 0) dX12_pressed_151 (by decide) ?_
            refine wp_istore (lv2 := [(4, .int 0), (7, .int v39), (6, .int v35), (0, .ref x0), (1, .ref x1), (2, .int x2), (3, .int x3), (5, .int x5)]) dX12_pressed_152 (by decide) rfl ?_
            obtain ⟨v56, e57⟩ : ∃ y : Int32, y = x5 + (1) := ⟨_, rfl⟩
            have hb := hb v56 e57
            refine wp_iinc (v := v56) (lv2 := [(5, .int v56), (4, .int 0), (7, .int v39), (6, .int v35), (0, .ref x0), (1, .ref x1), (2, .int x2), (3, .int x3)]) 7 dX12_pressed_154 rfl (by rw [e57]; rfl) (by decide) rfl ?_
            refine wp_goto (tgt := 53) dX12_pressed_157 (by decide) ?_
            exact wp_sub [4, 5, 6, 7, 1, 0] rfl hb
          · have hb := hb.2 c55
            refine wp_goto (tgt := 147) dX12_pressed_137 (by decide) ?_
            refine wp_iconst (v := 1) dX12_pressed_147 (by decide) ?_
            refine wp_goto (tgt := 152) dX12_pressed_148 (by decide) ?_
            refine wp_istore (lv2 := [(4, .int 1), (7, .int v39), (6, .int v35), (0, .ref x0), (1, .ref x1), (2, .int x2), (3, .int x3), (5, .int x5)]) dX12_pressed_152 (by decide) rfl ?_
            obtain ⟨v58, e59⟩ : ∃ y : Int32, y = x5 + (1) := ⟨_, rfl⟩
            have hb := hb v58 e59
            refine wp_iinc (v := v58) (lv2 := [(5, .int v58), (4, .int 1), (7, .int v39), (6, .int v35), (0, .ref x0), (1, .ref x1), (2, .int x2), (3, .int x3)]) 7 dX12_pressed_154 rfl (by rw [e59]; rfl) (by decide) rfl ?_
            refine wp_goto (tgt := 53) dX12_pressed_157 (by decide) ?_
            exact wp_sub [4, 5, 6, 7, 1, 0] rfl hb
      · have hb := hb.2 c46
        refine wp_iload 1 dX12_pressed_108 rfl ?_
        refine wp_iload 0 dX12_pressed_110 rfl ?_
        refine wp_icmp_ne (tgt := 151) dX12_pressed_112 (by decide) (fun c60 => ?_) (fun c60 => ?_)
        · have hb := hb.1 c60
          refine wp_iconst (v := 0) dX12_pressed_151 (by decide) ?_
          refine wp_istore (lv2 := [(4, .int 0), (7, .int v39), (6, .int v35), (0, .ref x0), (1, .ref x1), (2, .int x2), (3, .int x3), (5, .int x5)]) dX12_pressed_152 (by decide) rfl ?_
          obtain ⟨v61, e62⟩ : ∃ y : Int32, y = x5 + (1) := ⟨_, rfl⟩
          have hb := hb v61 e62
          refine wp_iinc (v := v61) (lv2 := [(5, .int v61), (4, .int 0), (7, .int v39), (6, .int v35), (0, .ref x0), (1, .ref x1), (2, .int x2), (3, .int x3)]) 7 dX12_pressed_154 rfl (by rw [e62]; rfl) (by decide) rfl ?_
          refine wp_goto (tgt := 53) dX12_pressed_157 (by decide) ?_
          exact wp_sub [4, 5, 6, 7, 1, 0] rfl hb
        · have hb := hb.2 c60
          refine wp_goto (tgt := 147) dX12_pressed_115 (by decide) ?_
          refine wp_iconst (v := 1) dX12_pressed_147 (by decide) ?_
          refine wp_goto (tgt := 152) dX12_pressed_148 (by decide) ?_
          refine wp_istore (lv2 := [(4, .int 1), (7, .int v39), (6, .int v35), (0, .ref x0), (1, .ref x1), (2, .int x2), (3, .int x3), (5, .int x5)]) dX12_pressed_152 (by decide) rfl ?_
          obtain ⟨v63, e64⟩ : ∃ y : Int32, y = x5 + (1) := ⟨_, rfl⟩
          have hb := hb v63 e64
          refine wp_iinc (v := v63) (lv2 := [(5, .int v63), (4, .int 1), (7, .int v39), (6, .int v35), (0, .ref x0), (1, .ref x1), (2, .int x2), (3, .int x3)]) 7 dX12_pressed_154 rfl (by rw [e64]; rfl) (by decide) rfl ?_
          refine wp_goto (tgt := 53) dX12_pressed_157 (by decide) ?_
          exact wp_sub [4, 5, 6, 7, 1, 0] rfl hb
theorem c_X12_pressed {l : Launch} {g : AG} {h : AH} {x0 : Nat} {x1 : Nat}  {Q : Int32 → AH → Prop} (hb : L_X12_pressed_0 l g h x0 x1  Q) : C_X12_pressed l g h x0 x1  Q := ax_met rfl rfl (Nat.le_of_ble_eq_true rfl) hb
def C_X12_possible (l : Launch) (g : AG) (h : AH) (x0 : Nat) (x1 : Nat)  (Q : Int32 → AH → Prop) : Prop := Ct l g mX12_possible 1 27 194 194 h [.ref x0, .ref x1] (ax_QI Q)
def L_X12_possible_0 (l : Launch) (g : AG) (h : AH) (x0 : Nat) (x1 : Nat)  (Q : Int32 → AH → Prop) : Prop := Wp l g mX12_possible 1 27 194 194 194 0 [(0, .ref x0), (1, .ref x1)] [] h (FM g 194 194 (ax_QI Q))
def L_X12_possible_23 (l : Launch) (g : AG) (h : AH) (x0 : Nat) (s0 : Int32) (s1 : Int32) (Q : Int32 → AH → Prop) : Prop := Wp l g mX12_possible 1 27 194 194 194 23 [(0, .ref x0)] [.int s0, .int s1] h (FM g 194 194 (ax_QI Q))
set_option maxRecDepth 100000 in
set_option maxHeartbeats 4000000 in
theorem s_X12_possible_0 {l : Launch} {g : AG} {h : AH} {x0 : Nat} {x1 : Nat}  {Q : Int32 → AH → Prop} (hb : (Is 194 x0 11) ∧ ( (Is 194 x1 9) ∧ ( C_X12_pressed l g h x0 x1 (fun r5 h4 => ( ((h4.1 x0 19 ≤ 0 → (L_X12_possible_23 l g h4 x0 16777216 (r5 ||| 67108864) Q)) ∧ (¬ (h4.1 x0 19 ≤ 0) → (L_X12_possible_23 l g h4 x0 0 (r5 ||| 67108864) Q)))))))) : L_X12_possible_0 l g h x0 x1  Q := by
  obtain ⟨i1, hb⟩ := hb
  refine wp_aload_n 0 dX12_possible_0 rfl rfl ?_
  obtain ⟨i2, hb⟩ := hb
  refine wp_aload_n 1 dX12_possible_1 rfl rfl ?_
  refine wp_callV (as := [.ref x1]) dX12_possible_2 cb_X12_pressed lk_X12_354 im_X12_pressed se_X12_pressed rfl (Nat.le_of_ble_eq_true rfl) ⟨by decide, by decide⟩ ⟨Nat.le_refl _, Nat.le_refl _, Nat.le_refl _⟩ i1 rfl (by decide) hb (fun r0 h4 hb => ?_)
  obtain ⟨r5, rfl, hb⟩ := hb
  refine wp_ldcw (v := 67108864) dX12_possible_5 lk_X12_358 ?_
  refine wp_ior dX12_possible_8 ?_
  refine wp_aload_n 0 dX12_possible_9 rfl rfl ?_
  refine wp_getI dX12_possible_10 fl_X12_343 i1 ?_
  refine wp_if_le (tgt := 20) dX12_possible_13 (by decide) (fun c6 => ?_) (fun c6 => ?_)
  · have hb := hb.1 c6
    refine wp_ldcw (v := 16777216) dX12_possible_20 lk_X12_359 ?_
    exact wp_sub [0] rfl hb
  · have hb := hb.2 c6
    refine wp_iconst (v := 0) dX12_possible_16 (by decide) ?_
    refine wp_goto (tgt := 23) dX12_possible_17 (by decide) ?_
    exact wp_sub [0] rfl hb
set_option maxRecDepth 100000 in
set_option maxHeartbeats 4000000 in
theorem s_X12_possible_23 {l : Launch} {g : AG} {h : AH} {x0 : Nat} {s0 : Int32} {s1 : Int32} {Q : Int32 → AH → Prop} (hb : (Is 194 x0 11) ∧ ( ((0 < h.1 x0 19 → (Q ((s1 ||| s0) ||| 0) h)) ∧ (¬ (0 < h.1 x0 19) → (((2 ≤ h.1 x0 20 → (Q ((s1 ||| s0) ||| 33554432) h)) ∧ (¬ (2 ≤ h.1 x0 20) → (Q ((s1 ||| s0) ||| 0) h)))))))) : L_X12_possible_23 l g h x0 s0 s1 Q := by
  refine wp_ior dX12_possible_23 ?_
  obtain ⟨i7, hb⟩ := hb
  refine wp_aload_n 0 dX12_possible_24 rfl rfl ?_
  refine wp_getI dX12_possible_25 fl_X12_343 i7 ?_
  refine wp_if_gt (tgt := 39) dX12_possible_28 (by decide) (fun c8 => ?_) (fun c8 => ?_)
  · have hb := hb.1 c8
    refine wp_iconst (v := 0) dX12_possible_39 (by decide) ?_
    refine wp_goto (tgt := 46) dX12_possible_40 (by decide) ?_
    refine wp_ior dX12_possible_46 ?_
    exact wp_iret rfl dX12_possible_47 ⟨_, rfl, hb⟩
  · have hb := hb.2 c8
    refine wp_aload_n 0 dX12_possible_31 rfl rfl ?_
    refine wp_getI dX12_possible_32 fl_X12_346 i7 ?_
    refine wp_iconst (v := 2) dX12_possible_35 (by decide) ?_
    refine wp_icmp_ge (tgt := 43) dX12_possible_36 (by decide) (fun c9 => ?_) (fun c9 => ?_)
    · have hb := hb.1 c9
      refine wp_ldcw (v := 33554432) dX12_possible_43 lk_X12_360 ?_
      refine wp_ior dX12_possible_46 ?_
      exact wp_iret rfl dX12_possible_47 ⟨_, rfl, hb⟩
    · have hb := hb.2 c9
      refine wp_iconst (v := 0) dX12_possible_39 (by decide) ?_
      refine wp_goto (tgt := 46) dX12_possible_40 (by decide) ?_
      refine wp_ior dX12_possible_46 ?_
      exact wp_iret rfl dX12_possible_47 ⟨_, rfl, hb⟩
theorem c_X12_possible {l : Launch} {g : AG} {h : AH} {x0 : Nat} {x1 : Nat}  {Q : Int32 → AH → Prop} (hb : L_X12_possible_0 l g h x0 x1  Q) : C_X12_possible l g h x0 x1  Q := ax_met rfl rfl (Nat.le_of_ble_eq_true rfl) hb
def C_X12_forgets (l : Launch) (g : AG) (h : AH) (x0 : Nat) (x1 : Nat)  (Q : AH → Prop) : Prop := Ct l g mX12_forgets 0 0 194 194 h [.ref x0, .ref x1] (ax_QV Q)
def L_X12_forgets_0 (l : Launch) (g : AG) (h : AH) (x0 : Nat) (x1 : Nat)  (Q : AH → Prop) : Prop := Wp l g mX12_forgets 0 0 194 194 194 0 [(0, .ref x0), (1, .ref x1)] [] h (FM g 194 194 (ax_QV Q))
def L_X12_forgets_2 (l : Launch) (g : AG) (h : AH) (x0 : Nat) (x1 : Nat) (x2 : Int32)  (Q : AH → Prop) : Prop := Wp l g mX12_forgets 0 0 194 194 194 2 [(0, .ref x0), (1, .ref x1), (2, .int x2)] [] h (FM g 194 194 (ax_QV Q))
set_option maxRecDepth 100000 in
set_option maxHeartbeats 4000000 in
theorem s_X12_forgets_0 {l : Launch} {g : AG} {h : AH} {x0 : Nat} {x1 : Nat}  {Q : AH → Prop} (hb : L_X12_forgets_2 l g h x0 x1 0  Q) : L_X12_forgets_0 l g h x0 x1  Q := by
  refine wp_iconst (v := 0) dX12_forgets_0 (by decide) ?_
  refine wp_istore_n (lv2 := [(2, .int 0), (0, .ref x0), (1, .ref x1)]) dX12_forgets_1 rfl (by decide) rfl ?_
  exact wp_sub [1, 2, 0] rfl hb
set_option maxRecDepth 100000 in
set_option maxHeartbeats 4000000 in
theorem s_X12_forgets_2 {l : Launch} {g : AG} {h : AH} {x0 : Nat} {x1 : Nat} {x2 : Int32}  {Q : AH → Prop} (hb : ((6 ≤ x2 → (Q h)) ∧ (¬ (6 ≤ x2) → ((Is 194 x1 9) ∧ ( ((h.1 x1 2 ≤ x2 → ((Is 194 x0 11) ∧ ( (Is 194 (h.2.2 x0 23) 20) ∧ ( (vp_in x2 (ax_s (h.2.2 x0 23)).2) ∧ ( ∀ h7 : AH, h7 = ax_setI h (h.2.2 x0 23) x2.toNatClampNeg 0 → ( ∀ v9 : Int32, v9 = x2 + (1) → ( L_X12_forgets_2 l g h7 x0 x1 v9  Q))))))) ∧ (¬ (h.1 x1 2 ≤ x2) → ((Is 194 (h.2.2 x1 10) 23) ∧ ( (vp_in x2 (ax_s (h.2.2 x1 10)).2) ∧ ( ((¬ h.1 (h.2.2 x1 10) x2.toNatClampNeg = 0 → (∀ v14 : Int32, v14 = x2 + (1) → ( L_X12_forgets_2 l g h x0 x1 v14  Q))) ∧ (h.1 (h.2.2 x1 10) x2.toNatClampNeg = 0 → ((Is 194 x0 11) ∧ ( (Is 194 (h.2.2 x0 23) 20) ∧ ( (vp_in x2 (ax_s (h.2.2 x0 23)).2) ∧ ( ∀ h19 : AH, h19 = ax_setI h (h.2.2 x0 23) x2.toNatClampNeg 0 → ( ∀ v21 : Int32, v21 = x2 + (1) → ( L_X12_forgets_2 l g h19 x0 x1 v21  Q)))))))))))))))))) : L_X12_forgets_2 l g h x0 x1 x2  Q := by
  refine wp_iload_n 2 dX12_forgets_2 rfl rfl ?_
  refine wp_bipush (v := 6) dX12_forgets_3 (by decide) ?_
  refine wp_icmp_ge (tgt := 38) dX12_forgets_5 (by decide) (fun c1 => ?_) (fun c1 => ?_)
  · have hb := hb.1 c1
    exact wp_vret rfl dX12_forgets_38 ⟨rfl, hb⟩
  · have hb := hb.2 c1
    refine wp_iload_n 2 dX12_forgets_8 rfl rfl ?_
    obtain ⟨i2, hb⟩ := hb
    refine wp_aload_n 1 dX12_forgets_9 rfl rfl ?_
    refine wp_getI dX12_forgets_10 fl_X12_198 i2 ?_
    refine wp_icmp_ge (tgt := 25) dX12_forgets_13 (by decide) (fun c3 => ?_) (fun c3 => ?_)
    · have hb := hb.1 c3
      obtain ⟨i4, hb⟩ := hb
      refine wp_aload_n 0 dX12_forgets_25 rfl rfl ?_
      obtain ⟨i5, hb⟩ := hb
      refine wp_getR dX12_forgets_26 fl_X12_59 i4 (i5.ne (by decide)) ?_
      refine wp_iload_n 2 dX12_forgets_29 rfl rfl ?_
      refine wp_iconst (v := 0) dX12_forgets_30 (by decide) ?_
      obtain ⟨b6, hb⟩ := hb
      refine wp_iastore dX12_forgets_31 i5 b6 ?_
      refine wp_topH (fun h7 e8 => ?_)
      have hb := hb h7 e8
      obtain ⟨v9, e10⟩ : ∃ y : Int32, y = x2 + (1) := ⟨_, rfl⟩
      have hb := hb v9 e10
      refine wp_iinc (v := v9) (lv2 := [(2, .int v9), (0, .ref x0), (1, .ref x1)]) 2 dX12_forgets_32 rfl (by rw [e10]; rfl) (by decide) rfl ?_
      refine wp_goto (tgt := 2) dX12_forgets_35 (by decide) ?_
      exact wp_sub [1, 2, 0] rfl hb
    · have hb := hb.2 c3
      refine wp_aload_n 1 dX12_forgets_16 rfl rfl ?_
      obtain ⟨i11, hb⟩ := hb
      refine wp_getR dX12_forgets_17 fl_X12_214 i2 (i11.ne (by decide)) ?_
      refine wp_iload_n 2 dX12_forgets_20 rfl rfl ?_
      obtain ⟨b12, hb⟩ := hb
      refine wp_zaload dX12_forgets_21 i11 b12 ?_
      refine wp_if_ne (tgt := 32) dX12_forgets_22 (by decide) (fun c13 => ?_) (fun c13 => ?_)
      · have hb := hb.1 c13
        obtain ⟨v14, e15⟩ : ∃ y : Int32, y = x2 + (1) := ⟨_, rfl⟩
        have hb := hb v14 e15
        refine wp_iinc (v := v14) (lv2 := [(2, .int v14), (0, .ref x0), (1, .ref x1)]) 2 dX12_forgets_32 rfl (by rw [e15]; rfl) (by decide) rfl ?_
        refine wp_goto (tgt := 2) dX12_forgets_35 (by decide) ?_
        exact wp_sub [1, 2, 0] rfl hb
      · have hb := hb.2 c13
        obtain ⟨i16, hb⟩ := hb
        refine wp_aload_n 0 dX12_forgets_25 rfl rfl ?_
        obtain ⟨i17, hb⟩ := hb
        refine wp_getR dX12_forgets_26 fl_X12_59 i16 (i17.ne (by decide)) ?_
        refine wp_iload_n 2 dX12_forgets_29 rfl rfl ?_
        refine wp_iconst (v := 0) dX12_forgets_30 (by decide) ?_
        obtain ⟨b18, hb⟩ := hb
        refine wp_iastore dX12_forgets_31 i17 b18 ?_
        refine wp_topH (fun h19 e20 => ?_)
        have hb := hb h19 e20
        obtain ⟨v21, e22⟩ : ∃ y : Int32, y = x2 + (1) := ⟨_, rfl⟩
        have hb := hb v21 e22
        refine wp_iinc (v := v21) (lv2 := [(2, .int v21), (0, .ref x0), (1, .ref x1)]) 2 dX12_forgets_32 rfl (by rw [e22]; rfl) (by decide) rfl ?_
        refine wp_goto (tgt := 2) dX12_forgets_35 (by decide) ?_
        exact wp_sub [1, 2, 0] rfl hb
theorem c_X12_forgets {l : Launch} {g : AG} {h : AH} {x0 : Nat} {x1 : Nat}  {Q : AH → Prop} (hb : L_X12_forgets_0 l g h x0 x1  Q) : C_X12_forgets l g h x0 x1  Q := ax_met rfl rfl (Nat.le_of_ble_eq_true rfl) hb
def C_X12_does (l : Launch) (g : AG) (h : AH) (x0 : Nat) (x1 : Nat) (x2 : Int32)  (Q : AH → Prop) : Prop := Ct l g mX12_does 1 22 194 194 h [.ref x0, .ref x1, .int x2] (ax_QV Q)
def L_X12_does_0 (l : Launch) (g : AG) (h : AH) (x0 : Nat) (x1 : Nat) (x2 : Int32)  (Q : AH → Prop) : Prop := Wp l g mX12_does 1 22 194 194 194 0 [(0, .ref x0), (1, .ref x1), (2, .int x2)] [] h (FM g 194 194 (ax_QV Q))
def L_X12_does_4 (l : Launch) (g : AG) (h : AH) (x0 : Nat) (x1 : Nat) (x2 : Int32) (x3 : Int32)  (Q : AH → Prop) : Prop := Wp l g mX12_does 1 22 194 194 194 4 [(0, .ref x0), (1, .ref x1), (2, .int x2), (3, .int x3)] [] h (FM g 194 194 (ax_QV Q))
set_option maxRecDepth 100000 in
set_option maxHeartbeats 4000000 in
theorem s_X12_does_0 {l : Launch} {g : AG} {h : AH} {x0 : Nat} {x1 : Nat} {x2 : Int32}  {Q : AH → Prop} (hb : ∀ v1 : Int32, v1 = (4 * x2) → ( L_X12_does_4 l g h x0 x1 x2 v1  Q)) : L_X12_does_0 l g h x0 x1 x2  Q := by
  refine wp_iconst (v := 4) dX12_does_0 (by decide) ?_
  refine wp_iload_n 2 dX12_does_1 rfl rfl ?_
  refine wp_imul dX12_does_2 ?_
  refine wp_topi (fun v1 e2 => ?_)
  have hb := hb v1 e2
  refine wp_istore_n (lv2 := [(3, .int v1), (0, .ref x0), (1, .ref x1), (2, .int x2)]) dX12_does_3 rfl (by decide) rfl ?_
  exact wp_sub [1, 2, 3, 0] rfl hb
set_option maxRecDepth 100000 in
set_option maxHeartbeats 4000000 in
theorem s_X12_does_4 {l : Launch} {g : AG} {h : AH} {x0 : Nat} {x1 : Nat} {x2 : Int32} {x3 : Int32}  {Q : AH → Prop} (hb : (Is 194 x1 9) ∧ ( (Is 194 (h.2.2 x1 11) 20) ∧ ( (vp_in x2 (ax_s (h.2.2 x1 11)).2) ∧ ( (((4 * x2) + (h.1 (h.2.2 x1 11) x2.toNatClampNeg) ≤ x3 → (Q h)) ∧ (¬ ((4 * x2) + (h.1 (h.2.2 x1 11) x2.toNatClampNeg) ≤ x3) → ((Is 194 x0 11) ∧ ( ((¬ h.1 x0 19 = 0 → (Q h)) ∧ (h.1 x0 19 = 0 → ((Is 194 (h.2.2 x1 13) 20) ∧ ( (vp_in x3 (ax_s (h.2.2 x1 13)).2) ∧ ( ∀ v11 : Int32, v11 = (h.1 (h.2.2 x1 13) x3.toNatClampNeg) → ( (Is 194 (h.2.2 x1 12) 20) ∧ ( (vp_in x3 (ax_s (h.2.2 x1 12)).2) ∧ ( ((h.1 (h.2.2 x1 12) x3.toNatClampNeg = 0 → (((¬ h.1 x0 20 = 5 → ((Is 194 (h.2.2 x0 21) 20) ∧ ( (vp_in (h.1 x0 20) (ax_s (h.2.2 x0 21)).2) ∧ ( ∀ h19 : AH, h19 = ax_setI h (h.2.2 x0 21) (h.1 x0 20).toNatClampNeg v11 → ( (Is 194 (h19.2.2 x0 22) 20) ∧ ( (vp_in (h19.1 x0 20) (ax_s (h19.2.2 x0 22)).2) ∧ ( ∀ h23 : AH, h23 = ax_setI h19 (h19.2.2 x0 22) (h19.1 x0 20).toNatClampNeg 0 → ( ∀ h25 : AH, h25 = ax_setI h23 x0 20 ((h23.1 x0 20) + 1) → ( ∀ v27 : Int32, v27 = x3 + (1) → ( L_X12_does_4 l g h25 x0 x1 x2 v27  Q)))))))))) ∧ (h.1 x0 20 = 5 → (∀ v29 : Int32, v29 = x3 + (1) → ( L_X12_does_4 l g h x0 x1 x2 v29  Q)))))) ∧ (¬ h.1 (h.2.2 x1 12) x3.toNatClampNeg = 0 → (((h.1 (h.2.2 x1 12) x3.toNatClampNeg = 1 → (∀ v32 : Int32, v32 = (if 1 < (h.1 x0 20) - 1 then (h.1 x0 20) - 1 else 1) → ( ∀ h34 : AH, h34 = ax_setI h x0 20 v32 → ( ∀ v36 : Int32, v36 = x3 + (1) → ( L_X12_does_4 l g h34 x0 x1 x2 v36  Q))))) ∧ (¬ h.1 (h.2.2 x1 12) x3.toNatClampNeg = 1 → (((h.1 (h.2.2 x1 12) x3.toNatClampNeg = 2 → ((Is 194 (h.2.2 x0 23) 20) ∧ ( (Is 194 (h.2.2 x1 14) 20) ∧ ( (vp_in x3 (ax_s (h.2.2 x1 14)).2) ∧ ( (vp_in v11 (ax_s (h.2.2 x0 23)).2) ∧ ( ∀ h43 : AH, h43 = ax_setI h (h.2.2 x0 23) v11.toNatClampNeg (h.1 (h.2.2 x1 14) x3.toNatClampNeg) → ( ∀ v45 : Int32, v45 = x3 + (1) → ( L_X12_does_4 l g h43 x0 x1 x2 v45  Q)))))))) ∧ (¬ h.1 (h.2.2 x1 12) x3.toNatClampNeg = 2 → (((h.1 (h.2.2 x1 12) x3.toNatClampNeg = 3 → ((Is 194 (h.2.2 x0 23) 20) ∧ ( (Is 194 (h.2.2 x0 23) 20) ∧ ( (vp_in v11 (ax_s (h.2.2 x0 23)).2) ∧ ( (Is 194 (h.2.2 x1 14) 20) ∧ ( (vp_in x3 (ax_s (h.2.2 x1 14)).2) ∧ ( ∀ v53 : Int32, v53 = ((h.1 (h.2.2 x0 23) v11.toNatClampNeg) + (h.1 (h.2.2 x1 14) x3.toNatClampNeg)) → ( (Is 194 (h.2.2 x1 6) 20) ∧ ( (vp_in v11 (ax_s (h.2.2 x1 6)).2) ∧ ( (¬ (h.1 (h.2.2 x1 6) v11.toNatClampNeg) + 1 = 0) ∧ ( ∀ v58 : Int32, v58 = (jirem v53 ((h.1 (h.2.2 x1 6) v11.toNatClampNeg) + 1)) → ( (vp_in v11 (ax_s (h.2.2 x0 23)).2) ∧ ( ∀ h61 : AH, h61 = ax_setI h (h.2.2 x0 23) v11.toNatClampNeg v58 → ( ∀ v63 : Int32, v63 = x3 + (1) → ( L_X12_does_4 l g h61 x0 x1 x2 v63  Q))))))))))))))) ∧ (¬ h.1 (h.2.2 x1 12) x3.toNatClampNeg = 3 → (∀ h65 : AH, h65 = ax_setI h x0 19 v11 → ( ∀ h67 : AH, h67 = ax_setI h65 x0 20 0 → ( C_X12_forgets l g h67 x0 x1 (fun h70 => ( ∀ v71 : Int32, v71 = x3 + (1) → ( L_X12_does_4 l g h70 x0 x1 x2 v71  Q))))))))))))))))))))))))))))))))) : L_X12_does_4 l g h x0 x1 x2 x3  Q := by
  refine wp_iload_n 3 dX12_does_4 rfl rfl ?_
  refine wp_iconst (v := 4) dX12_does_5 (by decide) ?_
  refine wp_iload_n 2 dX12_does_6 rfl rfl ?_
  refine wp_imul dX12_does_7 ?_
  obtain ⟨i3, hb⟩ := hb
  refine wp_aload_n 1 dX12_does_8 rfl rfl ?_
  obtain ⟨i4, hb⟩ := hb
  refine wp_getR dX12_does_9 fl_X12_237 i3 (i4.ne (by decide)) ?_
  refine wp_iload_n 2 dX12_does_12 rfl rfl ?_
  obtain ⟨b5, hb⟩ := hb
  refine wp_iaload dX12_does_13 i4 b5 ?_
  refine wp_iadd dX12_does_14 ?_
  refine wp_icmp_ge (tgt := 202) dX12_does_15 (by decide) (fun c6 => ?_) (fun c6 => ?_)
  · have hb := hb.1 c6
    exact wp_vret rfl dX12_does_202 ⟨rfl, hb⟩
  · have hb := hb.2 c6
    obtain ⟨i7, hb⟩ := hb
    refine wp_aload_n 0 dX12_does_18 rfl rfl ?_
    refine wp_getI dX12_does_19 fl_X12_343 i7 ?_
    refine wp_if_ne (tgt := 202) dX12_does_22 (by decide) (fun c8 => ?_) (fun c8 => ?_)
    · have hb := hb.1 c8
      exact wp_vret rfl dX12_does_202 ⟨rfl, hb⟩
    · have hb := hb.2 c8
      refine wp_aload_n 1 dX12_does_25 rfl rfl ?_
      obtain ⟨i9, hb⟩ := hb
      refine wp_getR dX12_does_26 fl_X12_243 i3 (i9.ne (by decide)) ?_
      refine wp_iload_n 3 dX12_does_29 rfl rfl ?_
      obtain ⟨b10, hb⟩ := hb
      refine wp_iaload dX12_does_30 i9 b10 ?_
      refine wp_topi (fun v11 e12 => ?_)
      have hb := hb v11 e12
      refine wp_istore (lv2 := [(4, .int v11), (0, .ref x0), (1, .ref x1), (2, .int x2), (3, .int x3)]) dX12_does_31 (by decide) rfl ?_
      refine wp_aload_n 2 dX12_does_33 rfl rfl ?_
      obtain ⟨i13, hb⟩ := hb
      refine wp_getR dX12_does_34 fl_X12_240 i3 (i13.ne (by decide)) ?_
      refine wp_iload_n 4 dX12_does_37 rfl rfl ?_
      obtain ⟨b14, hb⟩ := hb
      refine wp_iaload dX12_does_38 i13 b14 ?_
      refine wp_case 0 (fun c15 => ?_) (fun c15 => ?_)
      · have hb := hb.1 c15
        refine wp_tableIn (v := 0) (tgt := 68) dX12_does_39 c15 (by decide) (by decide) rfl (by decide) ?_
        refine wp_aload_n 1 dX12_does_68 rfl rfl ?_
        refine wp_getI dX12_does_69 fl_X12_346 i7 ?_
        refine wp_iconst (v := 5) dX12_does_72 (by decide) ?_
        refine wp_icmp_ne (tgt := 79) dX12_does_73 (by decide) (fun c16 => ?_) (fun c16 => ?_)
        · have hb := hb.1 c16
          refine wp_aload_n 1 dX12_does_79 rfl rfl ?_
          obtain ⟨i17, hb⟩ := hb
          refine wp_getR dX12_does_80 fl_X12_52 i7 (i17.ne (by decide)) ?_
          refine wp_aload_n 1 dX12_does_83 rfl rfl ?_
          refine wp_getI dX12_does_84 fl_X12_346 i7 ?_
          refine wp_iload 0 dX12_does_87 rfl ?_
          obtain ⟨b18, hb⟩ := hb
          refine wp_iastore dX12_does_89 i17 b18 ?_
          refine wp_topH (fun h19 e20 => ?_)
          have hb := hb h19 e20
          refine wp_aload_n 1 dX12_does_90 rfl rfl ?_
          obtain ⟨i21, hb⟩ := hb
          refine wp_getR dX12_does_91 fl_X12_56 i7 (i21.ne (by decide)) ?_
          refine wp_aload_n 1 dX12_does_94 rfl rfl ?_
          refine wp_getI dX12_does_95 fl_X12_346 i7 ?_
          refine wp_iconst (v := 0) dX12_does_98 (by decide) ?_
          obtain ⟨b22, hb⟩ := hb
          refine wp_iastore dX12_does_99 i21 b22 ?_
          refine wp_topH (fun h23 e24 => ?_)
          have hb := hb h23 e24
          refine wp_aload_n 1 dX12_does_100 rfl rfl ?_
          refine wp_dup dX12_does_101 rfl ?_
          refine wp_getI dX12_does_102 fl_X12_346 i7 ?_
          refine wp_iconst (v := 1) dX12_does_105 (by decide) ?_
          refine wp_iadd dX12_does_106 ?_
          refine wp_putI dX12_does_107 fl_X12_346 (Or.inl rfl) i7 ?_
          refine wp_topH (fun h25 e26 => ?_)
          have hb := hb h25 e26
          refine wp_goto (tgt := 196) dX12_does_110 (by decide) ?_
          obtain ⟨v27, e28⟩ : ∃ y : Int32, y = x3 + (1) := ⟨_, rfl⟩
          have hb := hb v27 e28
          refine wp_iinc (v := v27) (lv2 := [(3, .int v27), (4, .int v11), (0, .ref x0), (1, .ref x1), (2, .int x2)]) 4 dX12_does_196 rfl (by rw [e28]; rfl) (by decide) rfl ?_
          refine wp_goto (tgt := 4) dX12_does_199 (by decide) ?_
          exact wp_sub [2, 3, 4, 0] rfl hb
        · have hb := hb.2 c16
          refine wp_goto (tgt := 196) dX12_does_76 (by decide) ?_
          obtain ⟨v29, e30⟩ : ∃ y : Int32, y = x3 + (1) := ⟨_, rfl⟩
          have hb := hb v29 e30
          refine wp_iinc (v := v29) (lv2 := [(3, .int v29), (4, .int v11), (0, .ref x0), (1, .ref x1), (2, .int x2)]) 4 dX12_does_196 rfl (by rw [e30]; rfl) (by decide) rfl ?_
          refine wp_goto (tgt := 4) dX12_does_199 (by decide) ?_
          exact wp_sub [2, 3, 4, 0] rfl hb
      · have hb := hb.2 c15
        refine wp_case 1 (fun c31 => ?_) (fun c31 => ?_)
        · have hb := hb.1 c31
          refine wp_tableIn (v := 1) (tgt := 113) dX12_does_39 c31 (by decide) (by decide) rfl (by decide) ?_
          refine wp_aload_n 1 dX12_does_113 rfl rfl ?_
          refine wp_iconst (v := 1) dX12_does_114 (by decide) ?_
          refine wp_aload_n 1 dX12_does_115 rfl rfl ?_
          refine wp_getI dX12_does_116 fl_X12_346 i7 ?_
          refine wp_iconst (v := 1) dX12_does_119 (by decide) ?_
          refine wp_isub dX12_does_120 ?_
          refine wp_mmax dX12_does_121 lk_X12_361 (Nat.le_of_ble_eq_true rfl) (by decide) (by decide) (by decide) ?_
          refine wp_topi (fun v32 e33 => ?_)
          have hb := hb v32 e33
          refine wp_putI dX12_does_124 fl_X12_346 (Or.inl rfl) i7 ?_
          refine wp_topH (fun h34 e35 => ?_)
          have hb := hb h34 e35
          refine wp_goto (tgt := 196) dX12_does_127 (by decide) ?_
          obtain ⟨v36, e37⟩ : ∃ y : Int32, y = x3 + (1) := ⟨_, rfl⟩
          have hb := hb v36 e37
          refine wp_iinc (v := v36) (lv2 := [(3, .int v36), (4, .int v11), (0, .ref x0), (1, .ref x1), (2, .int x2)]) 4 dX12_does_196 rfl (by rw [e37]; rfl) (by decide) rfl ?_
          refine wp_goto (tgt := 4) dX12_does_199 (by decide) ?_
          exact wp_sub [2, 3, 4, 0] rfl hb
        · have hb := hb.2 c31
          refine wp_case 2 (fun c38 => ?_) (fun c38 => ?_)
          · have hb := hb.1 c38
            refine wp_tableIn (v := 2) (tgt := 130) dX12_does_39 c38 (by decide) (by decide) rfl (by decide) ?_
            refine wp_aload_n 1 dX12_does_130 rfl rfl ?_
            obtain ⟨i39, hb⟩ := hb
            refine wp_getR dX12_does_131 fl_X12_59 i7 (i39.ne (by decide)) ?_
            refine wp_iload 0 dX12_does_134 rfl ?_
            refine wp_aload_n 2 dX12_does_136 rfl rfl ?_
            obtain ⟨i40, hb⟩ := hb
            refine wp_getR dX12_does_137 fl_X12_310 i3 (i40.ne (by decide)) ?_
            refine wp_iload_n 4 dX12_does_140 rfl rfl ?_
            obtain ⟨b41, hb⟩ := hb
            refine wp_iaload dX12_does_141 i40 b41 ?_
            obtain ⟨b42, hb⟩ := hb
            refine wp_iastore dX12_does_142 i39 b42 ?_
            refine wp_topH (fun h43 e44 => ?_)
            have hb := hb h43 e44
            refine wp_goto (tgt := 196) dX12_does_143 (by decide) ?_
            obtain ⟨v45, e46⟩ : ∃ y : Int32, y = x3 + (1) := ⟨_, rfl⟩
            have hb := hb v45 e46
            refine wp_iinc (v := v45) (lv2 := [(3, .int v45), (4, .int v11), (0, .ref x0), (1, .ref x1), (2, .int x2)]) 4 dX12_does_196 rfl (by rw [e46]; rfl) (by decide) rfl ?_
            refine wp_goto (tgt := 4) dX12_does_199 (by decide) ?_
            exact wp_sub [2, 3, 4, 0] rfl hb
          · have hb := hb.2 c38
            refine wp_case 3 (fun c47 => ?_) (fun c47 => ?_)
            · have hb := hb.1 c47
              refine wp_tableIn (v := 3) (tgt := 146) dX12_does_39 c47 (by decide) (by decide) rfl (by decide) ?_
              refine wp_aload_n 1 dX12_does_146 rfl rfl ?_
              obtain ⟨i48, hb⟩ := hb
              refine wp_getR dX12_does_147 fl_X12_59 i7 (i48.ne (by decide)) ?_
              refine wp_iload 0 dX12_does_150 rfl ?_
              refine wp_aload_n 1 dX12_does_152 rfl rfl ?_
              obtain ⟨i49, hb⟩ := hb
              refine wp_getR dX12_does_153 fl_X12_59 i7 (i49.ne (by decide)) ?_
              refine wp_iload 0 dX12_does_156 rfl ?_
              obtain ⟨b50, hb⟩ := hb
              refine wp_iaload dX12_does_158 i49 b50 ?_
              refine wp_aload_n 2 dX12_does_159 rfl rfl ?_
              obtain ⟨i51, hb⟩ := hb
              refine wp_getR dX12_does_160 fl_X12_310 i3 (i51.ne (by decide)) ?_
              refine wp_iload_n 4 dX12_does_163 rfl rfl ?_
              obtain ⟨b52, hb⟩ := hb
              refine wp_iaload dX12_does_164 i51 b52 ?_
              refine wp_iadd dX12_does_165 ?_
              refine wp_topi (fun v53 e54 => ?_)
              have hb := hb v53 e54
              refine wp_aload_n 2 dX12_does_166 rfl rfl ?_
              obtain ⟨i55, hb⟩ := hb
              refine wp_getR dX12_does_167 fl_X12_216 i3 (i55.ne (by decide)) ?_
              refine wp_iload 0 dX12_does_170 rfl ?_
              obtain ⟨b56, hb⟩ := hb
              refine wp_iaload dX12_does_172 i55 b56 ?_
              refine wp_iconst (v := 1) dX12_does_173 (by decide) ?_
              refine wp_iadd dX12_does_174 ?_
              obtain ⟨q57, hb⟩ := hb
              refine wp_irem dX12_does_175 q57 ?_
              refine wp_topi (fun v58 e59 => ?_)
              have hb := hb v58 e59
              obtain ⟨b60, hb⟩ := hb
              refine wp_iastore dX12_does_176 i48 b60 ?_
              refine wp_topH (fun h61 e62 => ?_)
              have hb := hb h61 e62
              refine wp_goto (tgt := 196) dX12_does_177 (by decide) ?_
              obtain ⟨v63, e64⟩ : ∃ y : Int32, y = x3 + (1) := ⟨_, rfl⟩
              have hb := hb v63 e64
              refine wp_iinc (v := v63) (lv2 := [(3, .int v63), (4, .int v11), (0, .ref x0), (1, .ref x1), (2, .int x2)]) 4 dX12_does_196 rfl (by rw [e64]; rfl) (by decide) rfl ?_
              refine wp_goto (tgt := 4) dX12_does_199 (by decide) ?_
              exact wp_sub [2, 3, 4, 0] rfl hb
            · have hb := hb.2 c47
              refine wp_tableOut (tgt := 180) dX12_does_39 (by have zc15 := lv_neT (k := 0) (a := 0) c15 rfl; have zc31 := lv_neT (k := 1) (a := 1) c31 rfl; have zc38 := lv_neT (k := 2) (a := 2) c38 rfl; have zc47 := lv_neT (k := 3) (a := 3) c47 rfl; omega) (by decide) ?_
              refine wp_aload_n 1 dX12_does_180 rfl rfl ?_
              refine wp_iload 0 dX12_does_181 rfl ?_
              refine wp_putI dX12_does_183 fl_X12_343 (Or.inl rfl) i7 ?_
              refine wp_topH (fun h65 e66 => ?_)
              have hb := hb h65 e66
              refine wp_aload_n 1 dX12_does_186 rfl rfl ?_
              refine wp_iconst (v := 0) dX12_does_187 (by decide) ?_
              refine wp_putI dX12_does_188 fl_X12_346 (Or.inl rfl) i7 ?_
              refine wp_topH (fun h67 e68 => ?_)
              have hb := hb h67 e68
              refine wp_aload_n 1 dX12_does_191 rfl rfl ?_
              refine wp_aload_n 2 dX12_does_192 rfl rfl ?_
              refine wp_callV (as := [.ref x1]) dX12_does_193 cb_X12_forgets lk_X12_366 im_X12_forgets se_X12_forgets rfl (Nat.le_of_ble_eq_true rfl) ⟨by decide, by decide⟩ ⟨Nat.le_refl _, Nat.le_refl _, Nat.le_refl _⟩ i7 rfl (by decide) hb (fun r0 h70 hb => ?_)
              obtain ⟨rfl, hb⟩ := hb
              obtain ⟨v71, e72⟩ : ∃ y : Int32, y = x3 + (1) := ⟨_, rfl⟩
              have hb := hb v71 e72
              refine wp_iinc (v := v71) (lv2 := [(3, .int v71), (4, .int v11), (0, .ref x0), (1, .ref x1), (2, .int x2)]) 4 dX12_does_196 rfl (by rw [e72]; rfl) (by decide) rfl ?_
              refine wp_goto (tgt := 4) dX12_does_199 (by decide) ?_
              exact wp_sub [2, 3, 4, 0] rfl hb
theorem c_X12_does {l : Launch} {g : AG} {h : AH} {x0 : Nat} {x1 : Nat} {x2 : Int32}  {Q : AH → Prop} (hb : L_X12_does_0 l g h x0 x1 x2  Q) : C_X12_does l g h x0 x1 x2  Q := ax_met rfl rfl (Nat.le_of_ble_eq_true rfl) hb
def C_X12_acts (l : Launch) (g : AG) (h : AH) (x0 : Nat) (x1 : Nat) (x2 : Int32)  (Q : AH → Prop) : Prop := Ct l g mX12_acts 2 46 194 194 h [.ref x0, .ref x1, .int x2] (ax_QV Q)
def L_X12_acts_0 (l : Launch) (g : AG) (h : AH) (x0 : Nat) (x1 : Nat) (x2 : Int32)  (Q : AH → Prop) : Prop := Wp l g mX12_acts 2 46 194 194 194 0 [(0, .ref x0), (1, .ref x1), (2, .int x2)] [] h (FM g 194 194 (ax_QV Q))
set_option maxRecDepth 100000 in
set_option maxHeartbeats 4000000 in
theorem s_X12_acts_0 {l : Launch} {g : AG} {h : AH} {x0 : Nat} {x1 : Nat} {x2 : Int32}  {Q : AH → Prop} (hb : ((24 ≤ x2 → (((¬ x2 = 24 → (((¬ x2 = 25 → ((Is 194 x0 11) ∧ ( ∀ h5 : AH, h5 = ax_setI h x0 19 0 → ( ∀ h7 : AH, h7 = ax_setI h5 x0 20 1 → ( (Is 194 (h7.2.2 x0 21) 20) ∧ ( (vp_in 0 (ax_s (h7.2.2 x0 21)).2) ∧ ( ∀ h11 : AH, h11 = ax_setI h7 (h7.2.2 x0 21) (0 : Int32).toNatClampNeg 0 → ( (Is 194 (h11.2.2 x0 22) 20) ∧ ( (vp_in 0 (ax_s (h11.2.2 x0 22)).2) ∧ ( ∀ h15 : AH, h15 = ax_setI h11 (h11.2.2 x0 22) (0 : Int32).toNatClampNeg 0 → ( (Is 194 x1 9) ∧ ( C_X12_forgets l g h15 x0 x1 (fun h19 => ( Q h19)))))))))))))) ∧ (x2 = 25 → ((Is 194 x0 11) ∧ ( ∀ h21 : AH, h21 = ax_setI h x0 20 ((h.1 x0 20) - 1) → ( Q h21))))))) ∧ (x2 = 24 → ((Is 194 x0 11) ∧ ( (Is 194 (h.2.2 x0 21) 20) ∧ ( (vp_in ((h.1 x0 20) - 1) (ax_s (h.2.2 x0 21)).2) ∧ ( ∀ v26 : Int32, v26 = (h.1 (h.2.2 x0 21) ((h.1 x0 20) - 1).toNatClampNeg) → ( (Is 194 x1 9) ∧ ( (Is 194 (h.2.2 x1 9) 20) ∧ ( (vp_in v26 (ax_s (h.2.2 x1 9)).2) ∧ ( ((¬ h.1 (h.2.2 x1 9) v26.toNatClampNeg = 0 → ((Is 194 (h.2.2 x0 22) 20) ∧ ( (vp_in ((h.1 x0 20) - 1) (ax_s (h.2.2 x0 22)).2) ∧ ( ∀ v34 : Int32, v34 = (h.1 (h.2.2 x0 22) ((h.1 x0 20) - 1).toNatClampNeg) → ( (vp_in ((h.1 x0 20) - 1) (ax_s (h.2.2 x0 22)).2) ∧ ( ∀ h37 : AH, h37 = ax_setI h (h.2.2 x0 22) ((h.1 x0 20) - 1).toNatClampNeg (v34 + 1) → ( (Is 194 (h37.2.2 x0 22) 20) ∧ ( (vp_in ((h37.1 x0 20) - 1) (ax_s (h37.2.2 x0 22)).2) ∧ ( ∀ v41 : Int32, v41 = (h37.1 (h37.2.2 x0 22) ((h37.1 x0 20) - 1).toNatClampNeg) → ( (Is 194 (h37.2.2 x1 9) 20) ∧ ( (vp_in v26 (ax_s (h37.2.2 x1 9)).2) ∧ ( ((h37.1 (h37.2.2 x1 9) v26.toNatClampNeg ≤ v41 → ((Is 194 (h37.2.2 x0 22) 20) ∧ ( (vp_in ((h37.1 x0 20) - 1) (ax_s (h37.2.2 x0 22)).2) ∧ ( ∀ h48 : AH, h48 = ax_setI h37 (h37.2.2 x0 22) ((h37.1 x0 20) - 1).toNatClampNeg 0 → ( C_X12_does l g h48 x0 x1 (24 + v26) (fun h51 => ( Q h51))))))) ∧ (¬ (h37.1 (h37.2.2 x1 9) v26.toNatClampNeg ≤ v41) → (Q h37))))))))))))))) ∧ (h.1 (h.2.2 x1 9) v26.toNatClampNeg = 0 → (Q h))))))))))))))) ∧ (¬ (24 ≤ x2) → ((Is 194 x0 11) ∧ ( (Is 194 x1 9) ∧ ( C_X12_does l g h x0 x1 x2 (fun h55 => ( Q h55)))))))) : L_X12_acts_0 l g h x0 x1 x2  Q := by
  refine wp_iload_n 2 dX12_acts_0 rfl rfl ?_
  refine wp_bipush (v := 24) dX12_acts_1 (by decide) ?_
  refine wp_icmp_ge (tgt := 15) dX12_acts_3 (by decide) (fun c1 => ?_) (fun c1 => ?_)
  · have hb := hb.1 c1
    refine wp_iload_n 2 dX12_acts_15 rfl rfl ?_
    refine wp_bipush (v := 24) dX12_acts_16 (by decide) ?_
    refine wp_icmp_ne (tgt := 103) dX12_acts_18 (by decide) (fun c2 => ?_) (fun c2 => ?_)
    · have hb := hb.1 c2
      refine wp_iload_n 2 dX12_acts_103 rfl rfl ?_
      refine wp_bipush (v := 25) dX12_acts_104 (by decide) ?_
      refine wp_icmp_ne (tgt := 122) dX12_acts_106 (by decide) (fun c3 => ?_) (fun c3 => ?_)
      · have hb := hb.1 c3
        obtain ⟨i4, hb⟩ := hb
        refine wp_aload_n 0 dX12_acts_122 rfl rfl ?_
        refine wp_iconst (v := 0) dX12_acts_123 (by decide) ?_
        refine wp_putI dX12_acts_124 fl_X12_343 (Or.inl rfl) i4 ?_
        refine wp_topH (fun h5 e6 => ?_)
        have hb := hb h5 e6
        refine wp_aload_n 0 dX12_acts_127 rfl rfl ?_
        refine wp_iconst (v := 1) dX12_acts_128 (by decide) ?_
        refine wp_putI dX12_acts_129 fl_X12_346 (Or.inl rfl) i4 ?_
        refine wp_topH (fun h7 e8 => ?_)
        have hb := hb h7 e8
        refine wp_aload_n 0 dX12_acts_132 rfl rfl ?_
        obtain ⟨i9, hb⟩ := hb
        refine wp_getR dX12_acts_133 fl_X12_52 i4 (i9.ne (by decide)) ?_
        refine wp_iconst (v := 0) dX12_acts_136 (by decide) ?_
        refine wp_iconst (v := 0) dX12_acts_137 (by decide) ?_
        obtain ⟨b10, hb⟩ := hb
        refine wp_iastore dX12_acts_138 i9 b10 ?_
        refine wp_topH (fun h11 e12 => ?_)
        have hb := hb h11 e12
        refine wp_aload_n 0 dX12_acts_139 rfl rfl ?_
        obtain ⟨i13, hb⟩ := hb
        refine wp_getR dX12_acts_140 fl_X12_56 i4 (i13.ne (by decide)) ?_
        refine wp_iconst (v := 0) dX12_acts_143 (by decide) ?_
        refine wp_iconst (v := 0) dX12_acts_144 (by decide) ?_
        obtain ⟨b14, hb⟩ := hb
        refine wp_iastore dX12_acts_145 i13 b14 ?_
        refine wp_topH (fun h15 e16 => ?_)
        have hb := hb h15 e16
        refine wp_aload_n 0 dX12_acts_146 rfl rfl ?_
        obtain ⟨i17, hb⟩ := hb
        refine wp_aload_n 1 dX12_acts_147 rfl rfl ?_
        refine wp_callV (as := [.ref x1]) dX12_acts_148 cb_X12_forgets lk_X12_366 im_X12_forgets se_X12_forgets rfl (Nat.le_of_ble_eq_true rfl) ⟨by decide, by decide⟩ ⟨Nat.le_refl _, Nat.le_refl _, Nat.le_refl _⟩ i4 rfl (by decide) hb (fun r0 h19 hb => ?_)
        obtain ⟨rfl, hb⟩ := hb
        exact wp_vret rfl dX12_acts_151 ⟨rfl, hb⟩
      · have hb := hb.2 c3
        obtain ⟨i20, hb⟩ := hb
        refine wp_aload_n 0 dX12_acts_109 rfl rfl ?_
        refine wp_dup dX12_acts_110 rfl ?_
        refine wp_getI dX12_acts_111 fl_X12_346 i20 ?_
        refine wp_iconst (v := 1) dX12_acts_114 (by decide) ?_
        refine wp_isub dX12_acts_115 ?_
        refine wp_putI dX12_acts_116 fl_X12_346 (Or.inl rfl) i20 ?_
        refine wp_topH (fun h21 e22 => ?_)
        have hb := hb h21 e22
        refine wp_goto (tgt := 151) dX12_acts_119 (by decide) ?_
        exact wp_vret rfl dX12_acts_151 ⟨rfl, hb⟩
    · have hb := hb.2 c2
      obtain ⟨i23, hb⟩ := hb
      refine wp_aload_n 0 dX12_acts_21 rfl rfl ?_
      obtain ⟨i24, hb⟩ := hb
      refine wp_getR dX12_acts_22 fl_X12_52 i23 (i24.ne (by decide)) ?_
      refine wp_aload_n 0 dX12_acts_25 rfl rfl ?_
      refine wp_getI dX12_acts_26 fl_X12_346 i23 ?_
      refine wp_iconst (v := 1) dX12_acts_29 (by decide) ?_
      refine wp_isub dX12_acts_30 ?_
      obtain ⟨b25, hb⟩ := hb
      refine wp_iaload dX12_acts_31 i24 b25 ?_
      refine wp_topi (fun v26 e27 => ?_)
      have hb := hb v26 e27
      refine wp_istore_n (lv2 := [(3, .int v26), (0, .ref x0), (1, .ref x1), (2, .int x2)]) dX12_acts_32 rfl (by decide) rfl ?_
      obtain ⟨i28, hb⟩ := hb
      refine wp_aload_n 2 dX12_acts_33 rfl rfl ?_
      obtain ⟨i29, hb⟩ := hb
      refine wp_getR dX12_acts_34 fl_X12_234 i28 (i29.ne (by decide)) ?_
      refine wp_iload_n 0 dX12_acts_37 rfl rfl ?_
      obtain ⟨b30, hb⟩ := hb
      refine wp_iaload dX12_acts_38 i29 b30 ?_
      refine wp_if_ne (tgt := 43) dX12_acts_39 (by decide) (fun c31 => ?_) (fun c31 => ?_)
      · have hb := hb.1 c31
        refine wp_aload_n 1 dX12_acts_43 rfl rfl ?_
        obtain ⟨i32, hb⟩ := hb
        refine wp_getR dX12_acts_44 fl_X12_56 i23 (i32.ne (by decide)) ?_
        refine wp_aload_n 1 dX12_acts_47 rfl rfl ?_
        refine wp_getI dX12_acts_48 fl_X12_346 i23 ?_
        refine wp_iconst (v := 1) dX12_acts_51 (by decide) ?_
        refine wp_isub dX12_acts_52 ?_
        refine wp_dup2_11 dX12_acts_53 rfl rfl ?_
        obtain ⟨b33, hb⟩ := hb
        refine wp_iaload dX12_acts_54 i32 b33 ?_
        refine wp_topi (fun v34 e35 => ?_)
        have hb := hb v34 e35
        refine wp_iconst (v := 1) dX12_acts_55 (by decide) ?_
        refine wp_iadd dX12_acts_56 ?_
        obtain ⟨b36, hb⟩ := hb
        refine wp_iastore dX12_acts_57 i32 b36 ?_
        refine wp_topH (fun h37 e38 => ?_)
        have hb := hb h37 e38
        refine wp_aload_n 1 dX12_acts_58 rfl rfl ?_
        obtain ⟨i39, hb⟩ := hb
        refine wp_getR dX12_acts_59 fl_X12_56 i23 (i39.ne (by decide)) ?_
        refine wp_aload_n 1 dX12_acts_62 rfl rfl ?_
        refine wp_getI dX12_acts_63 fl_X12_346 i23 ?_
        refine wp_iconst (v := 1) dX12_acts_66 (by decide) ?_
        refine wp_isub dX12_acts_67 ?_
        obtain ⟨b40, hb⟩ := hb
        refine wp_iaload dX12_acts_68 i39 b40 ?_
        refine wp_topi (fun v41 e42 => ?_)
        have hb := hb v41 e42
        refine wp_aload_n 2 dX12_acts_69 rfl rfl ?_
        obtain ⟨i43, hb⟩ := hb
        refine wp_getR dX12_acts_70 fl_X12_234 i28 (i43.ne (by decide)) ?_
        refine wp_iload_n 0 dX12_acts_73 rfl rfl ?_
        obtain ⟨b44, hb⟩ := hb
        refine wp_iaload dX12_acts_74 i43 b44 ?_
        refine wp_icmp_ge (tgt := 79) dX12_acts_75 (by decide) (fun c45 => ?_) (fun c45 => ?_)
        · have hb := hb.1 c45
          refine wp_aload_n 1 dX12_acts_79 rfl rfl ?_
          obtain ⟨i46, hb⟩ := hb
          refine wp_getR dX12_acts_80 fl_X12_56 i23 (i46.ne (by decide)) ?_
          refine wp_aload_n 1 dX12_acts_83 rfl rfl ?_
          refine wp_getI dX12_acts_84 fl_X12_346 i23 ?_
          refine wp_iconst (v := 1) dX12_acts_87 (by decide) ?_
          refine wp_isub dX12_acts_88 ?_
          refine wp_iconst (v := 0) dX12_acts_89 (by decide) ?_
          obtain ⟨b47, hb⟩ := hb
          refine wp_iastore dX12_acts_90 i46 b47 ?_
          refine wp_topH (fun h48 e49 => ?_)
          have hb := hb h48 e49
          refine wp_aload_n 1 dX12_acts_91 rfl rfl ?_
          refine wp_aload_n 2 dX12_acts_92 rfl rfl ?_
          refine wp_bipush (v := 24) dX12_acts_93 (by decide) ?_
          refine wp_iload_n 0 dX12_acts_95 rfl rfl ?_
          refine wp_iadd dX12_acts_96 ?_
          refine wp_callV (as := [.ref x1, .int (24 + v26)]) dX12_acts_97 cb_X12_does lk_X12_370 im_X12_does se_X12_does rfl (Nat.le_of_ble_eq_true rfl) ⟨by decide, by decide⟩ ⟨Nat.le_refl _, Nat.le_refl _, Nat.le_refl _⟩ i23 rfl (by decide) hb (fun r0 h51 hb => ?_)
          obtain ⟨rfl, hb⟩ := hb
          refine wp_goto (tgt := 151) dX12_acts_100 (by decide) ?_
          exact wp_vret rfl dX12_acts_151 ⟨rfl, hb⟩
        · have hb := hb.2 c45
          exact wp_vret rfl dX12_acts_78 ⟨rfl, hb⟩
      · have hb := hb.2 c31
        exact wp_vret rfl dX12_acts_42 ⟨rfl, hb⟩
  · have hb := hb.2 c1
    obtain ⟨i52, hb⟩ := hb
    refine wp_aload_n 0 dX12_acts_6 rfl rfl ?_
    obtain ⟨i53, hb⟩ := hb
    refine wp_aload_n 1 dX12_acts_7 rfl rfl ?_
    refine wp_iload_n 2 dX12_acts_8 rfl rfl ?_
    refine wp_callV (as := [.ref x1, .int x2]) dX12_acts_9 cb_X12_does lk_X12_370 im_X12_does se_X12_does rfl (Nat.le_of_ble_eq_true rfl) ⟨by decide, by decide⟩ ⟨Nat.le_refl _, Nat.le_refl _, Nat.le_refl _⟩ i52 rfl (by decide) hb (fun r0 h55 hb => ?_)
    obtain ⟨rfl, hb⟩ := hb
    refine wp_goto (tgt := 151) dX12_acts_12 (by decide) ?_
    exact wp_vret rfl dX12_acts_151 ⟨rfl, hb⟩
theorem c_X12_acts {l : Launch} {g : AG} {h : AH} {x0 : Nat} {x1 : Nat} {x2 : Int32}  {Q : AH → Prop} (hb : L_X12_acts_0 l g h x0 x1 x2  Q) : C_X12_acts l g h x0 x1 x2  Q := ax_met rfl rfl (Nat.le_of_ble_eq_true rfl) hb
