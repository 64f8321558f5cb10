def C_X0_viewOf (l : Launch) (g : AG) (h : AH) (x0 : Nat) (x1 : Int64)  (Q : Int64 → AH → Prop) : Prop := Ct l g mX0_viewOf 2 48 194 194 h [.ref x0, .long x1] (ax_QL Q)
def L_X0_viewOf_0 (l : Launch) (g : AG) (h : AH) (x0 : Nat) (x1 : Int64)  (Q : Int64 → AH → Prop) : Prop := Wp l g mX0_viewOf 2 48 194 194 194 0 [(0, .ref x0), (1, .long x1)] [] h (FM g 194 194 (ax_QL Q))
def L_X0_viewOf_23 (l : Launch) (g : AG) (h : AH) (x0 : Nat) (x1 : Int64) (x3 : Int32) (x4 : Int64) (x6 : Int32)  (Q : Int64 → AH → Prop) : Prop := Wp l g mX0_viewOf 2 48 194 194 194 23 [(0, .ref x0), (1, .long x1), (3, .int x3), (4, .long x4), (6, .int x6)] [] h (FM g 194 194 (ax_QL Q))
def L_X0_viewOf_64 (l : Launch) (g : AG) (h : AH) (x0 : Nat) (x1 : Int64) (x3 : Int32) (x4 : Int64) (x6 : Int32)  (Q : Int64 → AH → Prop) : Prop := Wp l g mX0_viewOf 2 48 194 194 194 64 [(0, .ref x0), (1, .long x1), (3, .int x3), (4, .long x4), (6, .int x6)] [] h (FM g 194 194 (ax_QL Q))
set_option maxRecDepth 100000 in
set_option maxHeartbeats 4000000 in
theorem s_X0_viewOf_0 {l : Launch} {g : AG} {h : AH} {x0 : Nat} {x1 : Int64}  {Q : Int64 → AH → Prop} (hb : C_X3_topOf l g h x1 (fun r3 h2 => ( ((¬ r3 = (-1) → (L_X0_viewOf_23 l g h2 x0 x1 r3 0 0  Q)) ∧ (r3 = (-1) → (C_X3_faultOf l g h2 x1 (fun r7 h6 => ( Q ((-r7).toInt64) h6)))))))) : L_X0_viewOf_0 l g h x0 x1  Q := by
  refine wp_lload_n 1 dX0_viewOf_0 rfl rfl ?_
  refine wp_callSN (as := [.long x1]) dX0_viewOf_1 cb_X3_topOf lk_X0_102 st_X3_topOf rfl (Nat.le_of_ble_eq_true rfl) ⟨by decide, by decide⟩ ⟨Nat.le_refl _, Nat.le_refl _, Nat.le_refl _⟩ hb (fun r0 h2 hb => ?_)
  obtain ⟨r3, rfl, hb⟩ := hb
  refine wp_istore_n (lv2 := [(3, .int r3), (0, .ref x0), (1, .long x1)]) dX0_viewOf_4 rfl (by decide) rfl ?_
  refine wp_iload_n 0 dX0_viewOf_5 rfl rfl ?_
  refine wp_iconst (v := (-1)) dX0_viewOf_6 (by decide) ?_
  refine wp_icmp_ne (tgt := 17) dX0_viewOf_7 (by decide) (fun c4 => ?_) (fun c4 => ?_)
  · have hb := hb.1 c4
    refine wp_lconst (v := 0) dX0_viewOf_17 (by decide) ?_
    refine wp_lstore (lv2 := [(4, .long 0), (3, .int r3), (0, .ref x0), (1, .long x1)]) dX0_viewOf_18 (by decide) rfl ?_
    refine wp_iconst (v := 0) dX0_viewOf_20 (by decide) ?_
    refine wp_istore (lv2 := [(6, .int 0), (4, .long 0), (3, .int r3), (0, .ref x0), (1, .long x1)]) dX0_viewOf_21 (by decide) rfl ?_
    exact wp_sub [3, 4, 2, 1, 0] rfl hb
  · have hb := hb.2 c4
    refine wp_lload_n 2 dX0_viewOf_10 rfl rfl ?_
    refine wp_callSN (as := [.long x1]) dX0_viewOf_11 cb_X3_faultOf lk_X0_131 st_X3_faultOf rfl (Nat.le_of_ble_eq_true rfl) ⟨by decide, by decide⟩ ⟨Nat.le_refl _, Nat.le_refl _, Nat.le_refl _⟩ hb (fun r0 h6 hb => ?_)
    obtain ⟨r7, rfl, hb⟩ := hb
    refine wp_ineg dX0_viewOf_14 ?_
    refine wp_i2l dX0_viewOf_15 ?_
    exact wp_lret rfl dX0_viewOf_16 ⟨_, rfl, hb⟩
set_option maxRecDepth 100000 in
set_option maxHeartbeats 4000000 in
theorem s_X0_viewOf_23 {l : Launch} {g : AG} {h : AH} {x0 : Nat} {x1 : Int64} {x3 : Int32} {x4 : Int64} {x6 : Int32}  {Q : Int64 → AH → Prop} (hb : (Is 194 x0 0) ∧ ( (Is 194 (h.2.2 x0 11) 20) ∧ ( (vp_in x3 (ax_s (h.2.2 x0 11)).2) ∧ ( ((h.1 (h.2.2 x0 11) x3.toNatClampNeg ≤ x6 → ((Is 194 (h.2.2 x0 14) 20) ∧ ( (vp_in x3 (ax_s (h.2.2 x0 14)).2) ∧ ( ∀ v14 : Int32, v14 = (h.1 (h.2.2 x0 14) x3.toNatClampNeg) → ( L_X0_viewOf_64 l g h x0 x1 x3 x4 v14  Q))))) ∧ (¬ (h.1 (h.2.2 x0 11) x3.toNatClampNeg ≤ x6) → (C_X0_shownIn l g h x0 x1 x3 x6 (fun r18 h17 => ( ∀ v19 : Int64, v19 = ((jlshl x4 4) ||| r18.toInt64) → ( ∀ v21 : Int32, v21 = x6 + (1) → ( L_X0_viewOf_23 l g h17 x0 x1 x3 v19 v21  Q))))))))))) : L_X0_viewOf_23 l g h x0 x1 x3 x4 x6  Q := by
  refine wp_iload 4 dX0_viewOf_23 rfl ?_
  obtain ⟨i8, hb⟩ := hb
  refine wp_aload_n 0 dX0_viewOf_25 rfl rfl ?_
  obtain ⟨i9, hb⟩ := hb
  refine wp_getR dX0_viewOf_26 fl_X0_48 i8 (i9.ne (by decide)) ?_
  refine wp_iload_n 2 dX0_viewOf_29 rfl rfl ?_
  obtain ⟨b10, hb⟩ := hb
  refine wp_iaload dX0_viewOf_30 i9 b10 ?_
  refine wp_icmp_ge (tgt := 56) dX0_viewOf_31 (by decide) (fun c11 => ?_) (fun c11 => ?_)
  · have hb := hb.1 c11
    refine wp_aload_n 0 dX0_viewOf_56 rfl rfl ?_
    obtain ⟨i12, hb⟩ := hb
    refine wp_getR dX0_viewOf_57 fl_X0_57 i8 (i12.ne (by decide)) ?_
    refine wp_iload_n 2 dX0_viewOf_60 rfl rfl ?_
    obtain ⟨b13, hb⟩ := hb
    refine wp_iaload dX0_viewOf_61 i12 b13 ?_
    refine wp_topi (fun v14 e15 => ?_)
    have hb := hb v14 e15
    refine wp_istore (lv2 := [(6, .int v14), (0, .ref x0), (1, .long x1), (3, .int x3), (4, .long x4)]) dX0_viewOf_62 (by decide) rfl ?_
    exact wp_sub [1, 2, 3, 4, 0] rfl hb
  · have hb := hb.2 c11
    refine wp_lload 3 dX0_viewOf_34 rfl ?_
    refine wp_iconst (v := 4) dX0_viewOf_36 (by decide) ?_
    refine wp_lshl dX0_viewOf_37 ?_
    refine wp_aload_n 0 dX0_viewOf_38 rfl rfl ?_
    refine wp_lload_n 1 dX0_viewOf_39 rfl rfl ?_
    refine wp_iload_n 2 dX0_viewOf_40 rfl rfl ?_
    refine wp_iload 4 dX0_viewOf_41 rfl ?_
    refine wp_callV (as := [.long x1, .int x3, .int x6]) dX0_viewOf_43 cb_X0_shownIn lk_X0_160 im_X0_shownIn se_X0_shownIn rfl (Nat.le_of_ble_eq_true rfl) ⟨by decide, by decide⟩ ⟨Nat.le_refl _, Nat.le_refl _, Nat.le_refl _⟩ i8 rfl (by decide) hb (fun r0 h17 hb => ?_)
    obtain ⟨r18, rfl, hb⟩ := hb
    refine wp_i2l dX0_viewOf_46 ?_
    refine wp_lor dX0_viewOf_47 ?_
    refine wp_topl (fun v19 e20 => ?_)
    have hb := hb v19 e20
    refine wp_lstore (lv2 := [(4, .long v19), (0, .ref x0), (1, .long x1), (3, .int x3), (6, .int x6)]) dX0_viewOf_48 (by decide) rfl ?_
    obtain ⟨v21, e22⟩ : ∃ y : Int32, y = x6 + (1) := ⟨_, rfl⟩
    have hb := hb v21 e22
    refine wp_iinc (v := v21) (lv2 := [(6, .int v21), (4, .long v19), (0, .ref x0), (1, .long x1), (3, .int x3)]) 4 dX0_viewOf_50 rfl (by rw [e22]; rfl) (by decide) rfl ?_
    refine wp_goto (tgt := 23) dX0_viewOf_53 (by decide) ?_
    exact wp_sub [2, 3, 4, 1, 0] rfl hb
set_option maxRecDepth 100000 in
set_option maxHeartbeats 4000000 in
theorem s_X0_viewOf_64 {l : Launch} {g : AG} {h : AH} {x0 : Nat} {x1 : Int64} {x3 : Int32} {x4 : Int64} {x6 : Int32}  {Q : Int64 → AH → Prop} (hb : (Is 194 x0 0) ∧ ( (Is 194 (h.2.2 x0 15) 20) ∧ ( (vp_in x3 (ax_s (h.2.2 x0 15)).2) ∧ ( ((h.1 (h.2.2 x0 15) x3.toNatClampNeg ≤ x6 → (Q ((jlshl x4 3) ||| x3.toInt64) h)) ∧ (¬ (h.1 (h.2.2 x0 15) x3.toNatClampNeg ≤ x6) → ((Is 194 (h.2.2 x0 17) 3) ∧ ( C_X4_hold l g h (h.2.2 x0 17) x6 x1 (fun r30 h29 => ( ((r30 = 0 → (∀ v32 : Int64, v32 = ((jlshl x4 1) ||| ((0 : Int32).toInt64)) → ( ∀ v34 : Int32, v34 = x6 + (1) → ( L_X0_viewOf_64 l g h29 x0 x1 x3 v32 v34  Q)))) ∧ (¬ (r30 = 0) → (∀ v36 : Int64, v36 = ((jlshl x4 1) ||| ((1 : Int32).toInt64)) → ( ∀ v38 : Int32, v38 = x6 + (1) → ( L_X0_viewOf_64 l g h29 x0 x1 x3 v36 v38  Q))))))))))))))) : L_X0_viewOf_64 l g h x0 x1 x3 x4 x6  Q := by
  refine wp_iload 4 dX0_viewOf_64 rfl ?_
  obtain ⟨i23, hb⟩ := hb
  refine wp_aload_n 0 dX0_viewOf_66 rfl rfl ?_
  obtain ⟨i24, hb⟩ := hb
  refine wp_getR dX0_viewOf_67 fl_X0_60 i23 (i24.ne (by decide)) ?_
  refine wp_iload_n 2 dX0_viewOf_70 rfl rfl ?_
  obtain ⟨b25, hb⟩ := hb
  refine wp_iaload dX0_viewOf_71 i24 b25 ?_
  refine wp_icmp_ge (tgt := 107) dX0_viewOf_72 (by decide) (fun c26 => ?_) (fun c26 => ?_)
  · have hb := hb.1 c26
    refine wp_lload 3 dX0_viewOf_107 rfl ?_
    refine wp_iconst (v := 3) dX0_viewOf_109 (by decide) ?_
    refine wp_lshl dX0_viewOf_110 ?_
    refine wp_iload_n 2 dX0_viewOf_111 rfl rfl ?_
    refine wp_i2l dX0_viewOf_112 ?_
    refine wp_lor dX0_viewOf_113 ?_
    exact wp_lret rfl dX0_viewOf_114 ⟨_, rfl, hb⟩
  · have hb := hb.2 c26
    refine wp_lload 3 dX0_viewOf_75 rfl ?_
    refine wp_iconst (v := 1) dX0_viewOf_77 (by decide) ?_
    refine wp_lshl dX0_viewOf_78 ?_
    refine wp_aload_n 0 dX0_viewOf_79 rfl rfl ?_
    obtain ⟨i27, hb⟩ := hb
    refine wp_getR dX0_viewOf_80 fl_X0_69 i23 (i27.ne (by decide)) ?_
    refine wp_iload 4 dX0_viewOf_83 rfl ?_
    refine wp_lload_n 1 dX0_viewOf_85 rfl rfl ?_
    refine wp_callVN (as := [.int x6, .long x1]) dX0_viewOf_86 cb_X4_hold lk_X0_109 im_X4_hold se_X4_hold rfl (Nat.le_of_ble_eq_true rfl) ⟨by decide, by decide⟩ ⟨Nat.le_refl _, Nat.le_refl _, Nat.le_refl _⟩ i27 rfl (by decide) hb (fun r0 h29 hb => ?_)
    obtain ⟨r30, rfl, hb⟩ := hb
    refine wp_if_eq (tgt := 96) dX0_viewOf_89 (by decide) (fun c31 => ?_) (fun c31 => ?_)
    · have hb := hb.1 c31
      refine wp_iconst (v := 0) dX0_viewOf_96 (by decide) ?_
      refine wp_i2l dX0_viewOf_97 ?_
      refine wp_lor dX0_viewOf_98 ?_
      refine wp_topl (fun v32 e33 => ?_)
      have hb := hb v32 e33
      refine wp_lstore (lv2 := [(4, .long v32), (0, .ref x0), (1, .long x1), (3, .int x3), (6, .int x6)]) dX0_viewOf_99 (by decide) rfl ?_
      obtain ⟨v34, e35⟩ : ∃ y : Int32, y = x6 + (1) := ⟨_, rfl⟩
      have hb := hb v34 e35
      refine wp_iinc (v := v34) (lv2 := [(6, .int v34), (4, .long v32), (0, .ref x0), (1, .long x1), (3, .int x3)]) 4 dX0_viewOf_101 rfl (by rw [e35]; rfl) (by decide) rfl ?_
      refine wp_goto (tgt := 64) dX0_viewOf_104 (by decide) ?_
      exact wp_sub [2, 3, 4, 1, 0] rfl hb
    · have hb := hb.2 c31
      refine wp_iconst (v := 1) dX0_viewOf_92 (by decide) ?_
      refine wp_goto (tgt := 97) dX0_viewOf_93 (by decide) ?_
      refine wp_i2l dX0_viewOf_97 ?_
      refine wp_lor dX0_viewOf_98 ?_
      refine wp_topl (fun v36 e37 => ?_)
      have hb := hb v36 e37
      refine wp_lstore (lv2 := [(4, .long v36), (0, .ref x0), (1, .long x1), (3, .int x3), (6, .int x6)]) dX0_viewOf_99 (by decide) rfl ?_
      obtain ⟨v38, e39⟩ : ∃ y : Int32, y = x6 + (1) := ⟨_, rfl⟩
      have hb := hb v38 e39
      refine wp_iinc (v := v38) (lv2 := [(6, .int v38), (4, .long v36), (0, .ref x0), (1, .long x1), (3, .int x3)]) 4 dX0_viewOf_101 rfl (by rw [e39]; rfl) (by decide) rfl ?_
      refine wp_goto (tgt := 64) dX0_viewOf_104 (by decide) ?_
      exact wp_sub [2, 3, 4, 1, 0] rfl hb
theorem c_X0_viewOf {l : Launch} {g : AG} {h : AH} {x0 : Nat} {x1 : Int64}  {Q : Int64 → AH → Prop} (hb : L_X0_viewOf_0 l g h x0 x1  Q) : C_X0_viewOf l g h x0 x1  Q := ax_met rfl (Nat.le_of_ble_eq_true rfl) hb
def C_X1_partByViews (l : Launch) (g : AG) (h : AH) (x0 : Nat)  (Q : AH → Prop) : Prop := Ct l g mX1_partByViews 3 74 194 194 h [.ref x0] (ax_QV Q)
def L_X1_partByViews_0 (l : Launch) (g : AG) (h : AH) (x0 : Nat)  (Q : AH → Prop) : Prop := Wp l g mX1_partByViews 3 74 194 194 194 0 [(0, .ref x0)] [] h (FM g 194 194 (ax_QV Q))
def L_X1_partByViews_9 (l : Launch) (g : AG) (h : AH) (x0 : Nat) (x1 : Int32)  (Q : AH → Prop) : Prop := Wp l g mX1_partByViews 3 74 194 194 194 9 [(0, .ref x0), (1, .int x1)] [] h (FM g 194 194 (ax_QV Q))
def L_X1_partByViews_48 (l : Launch) (g : AG) (h : AH) (x0 : Nat) (x1 : Int32) (x2 : Int64) (s0 : Int32) (Q : AH → Prop) : Prop := Wp l g mX1_partByViews 3 74 194 194 194 48 [(0, .ref x0), (1, .int x1), (2, .long x2)] [.int s0] h (FM g 194 194 (ax_QV Q))
set_option maxRecDepth 100000 in
set_option maxHeartbeats 4000000 in
theorem s_X1_partByViews_0 {l : Launch} {g : AG} {h : AH} {x0 : Nat}  {Q : AH → Prop} (hb : (Is 194 x0 1) ∧ ( (Is 194 (h.2.2 x0 4) 5) ∧ ( C_X6_clear l g h (h.2.2 x0 4) (fun h4 => ( L_X1_partByViews_9 l g h4 x0 0  Q))))) : L_X1_partByViews_0 l g h x0  Q := by
  obtain ⟨i1, hb⟩ := hb
  refine wp_aload_n 0 dX1_partByViews_0 rfl rfl ?_
  obtain ⟨i2, hb⟩ := hb
  refine wp_getR dX1_partByViews_1 fl_X1_26 i1 (i2.ne (by decide)) ?_
  refine wp_callVN (as := []) dX1_partByViews_4 cb_X6_clear lk_X1_56 im_X6_clear se_X6_clear rfl (Nat.le_of_ble_eq_true rfl) ⟨by decide, by decide⟩ ⟨Nat.le_refl _, Nat.le_refl _, Nat.le_refl _⟩ i2 rfl (by decide) hb (fun r0 h4 hb => ?_)
  obtain ⟨rfl, hb⟩ := hb
  refine wp_iconst (v := 0) dX1_partByViews_7 (by decide) ?_
  refine wp_istore_n (lv2 := [(1, .int 0), (0, .ref x0)]) dX1_partByViews_8 rfl (by decide) rfl ?_
  exact wp_sub [1, 0] rfl hb
set_option maxRecDepth 100000 in
set_option maxHeartbeats 4000000 in
theorem s_X1_partByViews_9 {l : Launch} {g : AG} {h : AH} {x0 : Nat} {x1 : Int32}  {Q : AH → Prop} (hb : (Is 194 x0 1) ∧ ( (Is 194 (h.2.2 x0 2) 5) ∧ ( ((h.1 (h.2.2 x0 2) 0 ≤ x1 → ((Is 194 (h.2.2 x0 4) 5) ∧ ( ∀ h9 : AH, h9 = ax_setI h x0 5 (h.1 (h.2.2 x0 4) 0) → ( Q h9)))) ∧ (¬ (h.1 (h.2.2 x0 2) 0 ≤ x1) → ((Is 194 (h.2.2 x0 2) 5) ∧ ( (Is 194 (h.2.2 (h.2.2 x0 2) 1) 21) ∧ ( (vp_in x1 (ax_s (h.2.2 (h.2.2 x0 2) 1)).2) ∧ ( ∀ v14 : Int64, v14 = (h.2.1 (h.2.2 (h.2.2 x0 2) 1) x1.toNatClampNeg) → ( (Is 194 (h.2.2 x0 1) 0) ∧ ( C_X0_possible l g h (h.2.2 x0 1) v14 25 (fun r19 h18 => ( ((r19 = 0 → (L_X1_partByViews_48 l g h18 x0 x1 v14 0 Q)) ∧ (¬ (r19 = 0) → (L_X1_partByViews_48 l g h18 x0 x1 v14 1 Q)))))))))))))))) : L_X1_partByViews_9 l g h x0 x1  Q := by
  refine wp_iload_n 1 dX1_partByViews_9 rfl rfl ?_
  obtain ⟨i5, hb⟩ := hb
  refine wp_aload_n 0 dX1_partByViews_10 rfl rfl ?_
  obtain ⟨i6, hb⟩ := hb
  refine wp_getR dX1_partByViews_11 fl_X1_18 i5 (i6.ne (by decide)) ?_
  refine wp_getI dX1_partByViews_14 fl_X1_50 i6 ?_
  refine wp_icmp_ge (tgt := 82) dX1_partByViews_17 (by decide) (fun c7 => ?_) (fun c7 => ?_)
  · have hb := hb.1 c7
    refine wp_aload_n 0 dX1_partByViews_82 rfl rfl ?_
    refine wp_aload_n 0 dX1_partByViews_83 rfl rfl ?_
    obtain ⟨i8, hb⟩ := hb
    refine wp_getR dX1_partByViews_84 fl_X1_26 i5 (i8.ne (by decide)) ?_
    refine wp_getI dX1_partByViews_87 fl_X1_50 i8 ?_
    refine wp_putI dX1_partByViews_90 fl_X1_29 (Or.inl rfl) i5 ?_
    refine wp_topH (fun h9 e10 => ?_)
    have hb := hb h9 e10
    exact wp_vret rfl dX1_partByViews_93 ⟨rfl, hb⟩
  · have hb := hb.2 c7
    refine wp_aload_n 0 dX1_partByViews_20 rfl rfl ?_
    obtain ⟨i11, hb⟩ := hb
    refine wp_getR dX1_partByViews_21 fl_X1_18 i5 (i11.ne (by decide)) ?_
    obtain ⟨i12, hb⟩ := hb
    refine wp_getR dX1_partByViews_24 fl_X1_73 i11 (i12.ne (by decide)) ?_
    refine wp_iload_n 1 dX1_partByViews_27 rfl rfl ?_
    obtain ⟨b13, hb⟩ := hb
    refine wp_laload dX1_partByViews_28 i12 b13 ?_
    refine wp_topl (fun v14 e15 => ?_)
    have hb := hb v14 e15
    refine wp_lstore_n (lv2 := [(2, .long v14), (0, .ref x0), (1, .int x1)]) dX1_partByViews_29 rfl (by decide) rfl ?_
    refine wp_aload_n 1 dX1_partByViews_30 rfl rfl ?_
    obtain ⟨i16, hb⟩ := hb
    refine wp_getR dX1_partByViews_31 fl_X1_42 i5 (i16.ne (by decide)) ?_
    refine wp_lload_n 0 dX1_partByViews_34 rfl rfl ?_
    refine wp_bipush (v := 25) dX1_partByViews_35 (by decide) ?_
    refine wp_callVN (as := [.long v14, .int 25]) dX1_partByViews_37 cb_X0_possible lk_X1_77 im_X0_possible se_X0_possible rfl (Nat.le_of_ble_eq_true rfl) ⟨by decide, by decide⟩ ⟨Nat.le_refl _, Nat.le_refl _, Nat.le_refl _⟩ i16 rfl (by decide) hb (fun r0 h18 hb => ?_)
    obtain ⟨r19, rfl, hb⟩ := hb
    refine wp_if_eq (tgt := 47) dX1_partByViews_40 (by decide) (fun c20 => ?_) (fun c20 => ?_)
    · have hb := hb.1 c20
      refine wp_iconst (v := 0) dX1_partByViews_47 (by decide) ?_
      exact wp_sub [1, 2, 0] rfl hb
    · have hb := hb.2 c20
      refine wp_iconst (v := 1) dX1_partByViews_43 (by decide) ?_
      refine wp_goto (tgt := 48) dX1_partByViews_44 (by decide) ?_
      exact wp_sub [1, 2, 0] rfl hb
set_option maxRecDepth 100000 in
set_option maxHeartbeats 4000000 in
theorem s_X1_partByViews_48 {l : Launch} {g : AG} {h : AH} {x0 : Nat} {x1 : Int32} {x2 : Int64} {s0 : Int32} {Q : AH → Prop} (hb : (Is 194 x0 1) ∧ ( (Is 194 (h.2.2 x0 6) 20) ∧ ( (Is 194 (h.2.2 x0 4) 5) ∧ ( (Is 194 (h.2.2 x0 1) 0) ∧ ( C_X0_viewOf l g h (h.2.2 x0 1) x2 (fun r27 h26 => ( C_X6_meet l g h26 (h.2.2 x0 4) r27 s0.toInt64 (-1) (-1) (fun r30 h29 => ( (vp_in x1 (ax_s (h.2.2 x0 6)).2) ∧ ( ∀ h32 : AH, h32 = ax_setI h29 (h.2.2 x0 6) x1.toNatClampNeg r30 → ( ∀ v34 : Int32, v34 = x1 + (1) → ( L_X1_partByViews_9 l g h32 x0 v34  Q)))))))))))) : L_X1_partByViews_48 l g h x0 x1 x2 s0 Q := by
  refine wp_istore (lv2 := [(4, .int s0), (0, .ref x0), (1, .int x1), (2, .long x2)]) dX1_partByViews_48 (by decide) rfl ?_
  obtain ⟨i21, hb⟩ := hb
  refine wp_aload_n 1 dX1_partByViews_50 rfl rfl ?_
  obtain ⟨i22, hb⟩ := hb
  refine wp_getR dX1_partByViews_51 fl_X1_32 i21 (i22.ne (by decide)) ?_
  refine wp_iload_n 2 dX1_partByViews_54 rfl rfl ?_
  refine wp_aload_n 1 dX1_partByViews_55 rfl rfl ?_
  obtain ⟨i23, hb⟩ := hb
  refine wp_getR dX1_partByViews_56 fl_X1_26 i21 (i23.ne (by decide)) ?_
  refine wp_aload_n 1 dX1_partByViews_59 rfl rfl ?_
  obtain ⟨i24, hb⟩ := hb
  refine wp_getR dX1_partByViews_60 fl_X1_42 i21 (i24.ne (by decide)) ?_
  refine wp_lload_n 3 dX1_partByViews_63 rfl rfl ?_
  refine wp_callVN (as := [.long x2]) dX1_partByViews_64 cb_X0_viewOf lk_X1_124 im_X0_viewOf se_X0_viewOf rfl (Nat.le_of_ble_eq_true rfl) ⟨by decide, by decide⟩ ⟨Nat.le_refl _, Nat.le_refl _, Nat.le_refl _⟩ i24 rfl (by decide) hb (fun r0 h26 hb => ?_)
  obtain ⟨r27, rfl, hb⟩ := hb
  refine wp_iload 0 dX1_partByViews_67 rfl ?_
  refine wp_i2l dX1_partByViews_69 ?_
  refine wp_iconst (v := (-1)) dX1_partByViews_70 (by decide) ?_
  refine wp_iconst (v := (-1)) dX1_partByViews_71 (by decide) ?_
  refine wp_callVN (as := [.long r27, .long s0.toInt64, .int (-1), .int (-1)]) dX1_partByViews_72 cb_X6_meet lk_X1_65 im_X6_meet se_X6_meet rfl (Nat.le_of_ble_eq_true rfl) ⟨by decide, by decide⟩ ⟨Nat.le_refl _, Nat.le_refl _, Nat.le_refl _⟩ i23 rfl (by decide) hb (fun r0 h29 hb => ?_)
  obtain ⟨r30, rfl, hb⟩ := hb
  obtain ⟨b31, hb⟩ := hb
  refine wp_iastore dX1_partByViews_75 i22 b31 ?_
  refine wp_topH (fun h32 e33 => ?_)
  have hb := hb h32 e33
  obtain ⟨v34, e35⟩ : ∃ y : Int32, y = x1 + (1) := ⟨_, rfl⟩
  have hb := hb v34 e35
  refine wp_iinc (v := v34) (lv2 := [(1, .int v34), (4, .int s0), (0, .ref x0), (2, .long x2)]) 2 dX1_partByViews_76 rfl (by rw [e35]; rfl) (by decide) rfl ?_
  refine wp_goto (tgt := 9) dX1_partByViews_79 (by decide) ?_
  exact wp_sub [2, 0] rfl hb
theorem c_X1_partByViews {l : Launch} {g : AG} {h : AH} {x0 : Nat}  {Q : AH → Prop} (hb : L_X1_partByViews_0 l g h x0  Q) : C_X1_partByViews l g h x0  Q := ax_met rfl (Nat.le_of_ble_eq_true rfl) hb
