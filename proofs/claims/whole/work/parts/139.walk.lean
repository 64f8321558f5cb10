def C_X2_numbersUnlike (l : Launch) (g : AG) (h : AH) (x0 : Nat) (x1 : Int64) (x3 : Int32) (x4 : Int64) (x6 : Int32)  (Q : Int32 → AH → Prop) : Prop := Ct l g mX2_numbersUnlike 2 46 194 194 h [.ref x0, .long x1, .int x3, .long x4, .int x6] (ax_QI Q)
def L_X2_numbersUnlike_0 (l : Launch) (g : AG) (h : AH) (x0 : Nat) (x1 : Int64) (x3 : Int32) (x4 : Int64) (x6 : Int32)  (Q : Int32 → AH → Prop) : Prop := Wp l g mX2_numbersUnlike 2 46 194 194 194 0 [(0, .ref x0), (1, .long x1), (3, .int x3), (4, .long x4), (6, .int x6)] [] h (FM g 194 194 (ax_QI Q))
def L_X2_numbersUnlike_31 (l : Launch) (g : AG) (h : AH) (x0 : Nat) (x1 : Int64) (x3 : Int32) (x4 : Int64) (x6 : Int32) (x7 : Int32) (x8 : Int32)  (Q : Int32 → AH → Prop) : Prop := Wp l g mX2_numbersUnlike 2 46 194 194 194 31 [(0, .ref x0), (1, .long x1), (3, .int x3), (4, .long x4), (6, .int x6), (7, .int x7), (8, .int x8)] [] h (FM g 194 194 (ax_QI Q))
set_option maxRecDepth 100000 in
set_option maxHeartbeats 4000000 in
theorem s_X2_numbersUnlike_0 {l : Launch} {g : AG} {h : AH} {x0 : Nat} {x1 : Int64} {x3 : Int32} {x4 : Int64} {x6 : Int32}  {Q : Int32 → AH → Prop} (hb : (Is 194 x0 2) ∧ ( (Is 194 (h.2.2 x0 0) 0) ∧ ( (Is 194 (h.2.2 (h.2.2 x0 0) 11) 20) ∧ ( (vp_in x3 (ax_s (h.2.2 (h.2.2 x0 0) 11)).2) ∧ ( ∀ v5 : Int32, v5 = (h.1 (h.2.2 (h.2.2 x0 0) 11) x3.toNatClampNeg) → ( (Is 194 (h.2.2 x0 1) 0) ∧ ( (Is 194 (h.2.2 (h.2.2 x0 1) 11) 20) ∧ ( (vp_in x6 (ax_s (h.2.2 (h.2.2 x0 1) 11)).2) ∧ ( ((v5 = h.1 (h.2.2 (h.2.2 x0 1) 11) x6.toNatClampNeg → (L_X2_numbersUnlike_31 l g h x0 x1 x3 x4 x6 v5 0  Q)) ∧ (¬ (v5 = h.1 (h.2.2 (h.2.2 x0 1) 11) x6.toNatClampNeg) → (Q 1 h)))))))))))) : L_X2_numbersUnlike_0 l g h x0 x1 x3 x4 x6  Q := by
  obtain ⟨i1, hb⟩ := hb
  refine wp_aload_n 0 dX2_numbersUnlike_0 rfl rfl ?_
  obtain ⟨i2, hb⟩ := hb
  refine wp_getR dX2_numbersUnlike_1 fl_X2_29 i1 (i2.ne (by decide)) ?_
  obtain ⟨i3, hb⟩ := hb
  refine wp_getR dX2_numbersUnlike_4 fl_X2_117 i2 (i3.ne (by decide)) ?_
  refine wp_iload_n 2 dX2_numbersUnlike_7 rfl rfl ?_
  obtain ⟨b4, hb⟩ := hb
  refine wp_iaload dX2_numbersUnlike_8 i3 b4 ?_
  refine wp_topi (fun v5 e6 => ?_)
  have hb := hb v5 e6
  refine wp_istore (lv2 := [(7, .int v5), (0, .ref x0), (1, .long x1), (3, .int x3), (4, .long x4), (6, .int x6)]) dX2_numbersUnlike_9 (by decide) rfl ?_
  refine wp_iload 0 dX2_numbersUnlike_11 rfl ?_
  refine wp_aload_n 1 dX2_numbersUnlike_13 rfl rfl ?_
  obtain ⟨i7, hb⟩ := hb
  refine wp_getR dX2_numbersUnlike_14 fl_X2_33 i1 (i7.ne (by decide)) ?_
  obtain ⟨i8, hb⟩ := hb
  refine wp_getR dX2_numbersUnlike_17 fl_X2_117 i7 (i8.ne (by decide)) ?_
  refine wp_iload 5 dX2_numbersUnlike_20 rfl ?_
  obtain ⟨b9, hb⟩ := hb
  refine wp_iaload dX2_numbersUnlike_22 i8 b9 ?_
  refine wp_icmp_eq (tgt := 28) dX2_numbersUnlike_23 (by decide) (fun c10 => ?_) (fun c10 => ?_)
  · have hb := hb.1 c10
    refine wp_iconst (v := 0) dX2_numbersUnlike_28 (by decide) ?_
    refine wp_istore (lv2 := [(8, .int 0), (7, .int v5), (0, .ref x0), (1, .long x1), (3, .int x3), (4, .long x4), (6, .int x6)]) dX2_numbersUnlike_29 (by decide) rfl ?_
    exact wp_sub [2, 3, 4, 5, 6, 1, 0] rfl hb
  · have hb := hb.2 c10
    refine wp_iconst (v := 1) dX2_numbersUnlike_26 (by decide) ?_
    exact wp_zret rfl dX2_numbersUnlike_27 (Or.inr rfl) ⟨_, rfl, hb⟩
set_option maxRecDepth 100000 in
set_option maxHeartbeats 4000000 in
theorem s_X2_numbersUnlike_31 {l : Launch} {g : AG} {h : AH} {x0 : Nat} {x1 : Int64} {x3 : Int32} {x4 : Int64} {x6 : Int32} {x7 : Int32} {x8 : Int32}  {Q : Int32 → AH → Prop} (hb : ((x7 ≤ x8 → (Q 0 h)) ∧ (¬ (x7 ≤ x8) → ((Is 194 x0 2) ∧ ( (Is 194 (h.2.2 x0 0) 0) ∧ ( C_X0_shownIn l g h (h.2.2 x0 0) x1 x3 x8 (fun r16 h15 => ( (Is 194 (h15.2.2 x0 1) 0) ∧ ( C_X0_shownIn l g h15 (h15.2.2 x0 1) x4 x6 x8 (fun r20 h19 => ( ((r16 = r20 → (∀ v22 : Int32, v22 = x8 + (1) → ( L_X2_numbersUnlike_31 l g h19 x0 x1 x3 x4 x6 x7 v22  Q))) ∧ (¬ (r16 = r20) → (Q 1 h19)))))))))))))) : L_X2_numbersUnlike_31 l g h x0 x1 x3 x4 x6 x7 x8  Q := by
  refine wp_iload 6 dX2_numbersUnlike_31 rfl ?_
  refine wp_iload 5 dX2_numbersUnlike_33 rfl ?_
  refine wp_icmp_ge (tgt := 73) dX2_numbersUnlike_35 (by decide) (fun c11 => ?_) (fun c11 => ?_)
  · have hb := hb.1 c11
    refine wp_iconst (v := 0) dX2_numbersUnlike_73 (by decide) ?_
    exact wp_zret rfl dX2_numbersUnlike_74 (Or.inl rfl) ⟨_, rfl, hb⟩
  · have hb := hb.2 c11
    obtain ⟨i12, hb⟩ := hb
    refine wp_aload_n 0 dX2_numbersUnlike_38 rfl rfl ?_
    obtain ⟨i13, hb⟩ := hb
    refine wp_getR dX2_numbersUnlike_39 fl_X2_29 i12 (i13.ne (by decide)) ?_
    refine wp_lload_n 1 dX2_numbersUnlike_42 rfl rfl ?_
    refine wp_iload_n 2 dX2_numbersUnlike_43 rfl rfl ?_
    refine wp_iload 6 dX2_numbersUnlike_44 rfl ?_
    refine wp_callVN (as := [.long x1, .int x3, .int x8]) dX2_numbersUnlike_46 cb_X0_shownIn lk_X2_121 im_X0_shownIn se_X0_shownIn rfl (Nat.le_of_ble_eq_true rfl) ⟨by decide, by decide⟩ ⟨Nat.le_refl _, Nat.le_refl _, Nat.le_refl _⟩ i13 rfl (by decide) hb (fun r0 h15 hb => ?_)
    obtain ⟨r16, rfl, hb⟩ := hb
    refine wp_aload_n 0 dX2_numbersUnlike_49 rfl rfl ?_
    obtain ⟨i17, hb⟩ := hb
    refine wp_getR dX2_numbersUnlike_50 fl_X2_33 i12 (i17.ne (by decide)) ?_
    refine wp_lload 3 dX2_numbersUnlike_53 rfl ?_
    refine wp_iload 4 dX2_numbersUnlike_55 rfl ?_
    refine wp_iload 6 dX2_numbersUnlike_57 rfl ?_
    refine wp_callVN (as := [.long x4, .int x6, .int x8]) dX2_numbersUnlike_59 cb_X0_shownIn lk_X2_121 im_X0_shownIn se_X0_shownIn rfl (Nat.le_of_ble_eq_true rfl) ⟨by decide, by decide⟩ ⟨Nat.le_refl _, Nat.le_refl _, Nat.le_refl _⟩ i17 rfl (by decide) hb (fun r0 h19 hb => ?_)
    obtain ⟨r20, rfl, hb⟩ := hb
    refine wp_icmp_eq (tgt := 67) dX2_numbersUnlike_62 (by decide) (fun c21 => ?_) (fun c21 => ?_)
    · have hb := hb.1 c21
      obtain ⟨v22, e23⟩ : ∃ y : Int32, y = x8 + (1) := ⟨_, rfl⟩
      have hb := hb v22 e23
      refine wp_iinc (v := v22) (lv2 := [(8, .int v22), (0, .ref x0), (1, .long x1), (3, .int x3), (4, .long x4), (6, .int x6), (7, .int x7)]) 6 dX2_numbersUnlike_67 rfl (by rw [e23]; rfl) (by decide) rfl ?_
      refine wp_goto (tgt := 31) dX2_numbersUnlike_70 (by decide) ?_
      exact wp_sub [1, 2, 3, 4, 5, 6, 0] rfl hb
    · have hb := hb.2 c21
      refine wp_iconst (v := 1) dX2_numbersUnlike_65 (by decide) ?_
      exact wp_zret rfl dX2_numbersUnlike_66 (Or.inr rfl) ⟨_, rfl, hb⟩
theorem c_X2_numbersUnlike {l : Launch} {g : AG} {h : AH} {x0 : Nat} {x1 : Int64} {x3 : Int32} {x4 : Int64} {x6 : Int32}  {Q : Int32 → AH → Prop} (hb : L_X2_numbersUnlike_0 l g h x0 x1 x3 x4 x6  Q) : C_X2_numbersUnlike l g h x0 x1 x3 x4 x6  Q := ax_met rfl (Nat.le_of_ble_eq_true rfl) hb
def C_X2_oneMorePressed (l : Launch) (g : AG) (h : AH) (x0 : Nat) (x1 : Int64) (x3 : Nat) (x4 : Int64)  (Q : Int32 → AH → Prop) : Prop := Ct l g mX2_oneMorePressed 2 48 194 194 h [.ref x0, .long x1, .ref x3, .long x4] (ax_QI Q)
def L_X2_oneMorePressed_0 (l : Launch) (g : AG) (h : AH) (x0 : Nat) (x1 : Int64) (x3 : Nat) (x4 : Int64)  (Q : Int32 → AH → Prop) : Prop := Wp l g mX2_oneMorePressed 2 48 194 194 194 0 [(0, .ref x0), (1, .long x1), (3, .ref x3), (4, .long x4)] [] h (FM g 194 194 (ax_QI Q))
def L_X2_oneMorePressed_36 (l : Launch) (g : AG) (h : AH) (x0 : Nat) (x1 : Int64) (x3 : Nat) (x4 : Int64) (x6 : Int32) (x7 : Int32) (x8 : Int32)  (Q : Int32 → AH → Prop) : Prop := Wp l g mX2_oneMorePressed 2 48 194 194 194 36 [(0, .ref x0), (1, .long x1), (3, .ref x3), (4, .long x4), (6, .int x6), (7, .int x7), (8, .int x8)] [] h (FM g 194 194 (ax_QI Q))
set_option maxRecDepth 100000 in
set_option maxHeartbeats 4000000 in
theorem s_X2_oneMorePressed_0 {l : Launch} {g : AG} {h : AH} {x0 : Nat} {x1 : Int64} {x3 : Nat} {x4 : Int64}  {Q : Int32 → AH → Prop} (hb : C_X3_topOf l g h x1 (fun r3 h2 => ( C_X3_topOf l g h2 x4 (fun r6 h5 => ( ((r3 = (-1) → (Q 0 h5)) ∧ (¬ (r3 = (-1)) → (((¬ r6 = (-1) → ((Is 194 x0 0) ∧ ( (Is 194 (h5.2.2 x0 14) 20) ∧ ( (vp_in r3 (ax_s (h5.2.2 x0 14)).2) ∧ ( ∀ v12 : Int32, v12 = (h5.1 (h5.2.2 x0 14) r3.toNatClampNeg) → ( L_X2_oneMorePressed_36 l g h5 x0 x1 x3 x4 r3 r6 v12  Q)))))) ∧ (r6 = (-1) → (Q 0 h5))))))))))) : L_X2_oneMorePressed_0 l g h x0 x1 x3 x4  Q := by
  refine wp_lload_n 1 dX2_oneMorePressed_0 rfl rfl ?_
  refine wp_callSN (as := [.long x1]) dX2_oneMorePressed_1 cb_X3_topOf lk_X2_90 st_X3_topOf rfl (Nat.le_of_ble_eq_true rfl) ⟨by decide, by decide⟩ ⟨Nat.le_refl _, Nat.le_refl _, Nat.le_refl _⟩ hb (fun r0 h2 hb => ?_)
  obtain ⟨r3, rfl, hb⟩ := hb
  refine wp_istore (lv2 := [(6, .int r3), (0, .ref x0), (1, .long x1), (3, .ref x3), (4, .long x4)]) dX2_oneMorePressed_4 (by decide) rfl ?_
  refine wp_lload 4 dX2_oneMorePressed_6 rfl ?_
  refine wp_callSN (as := [.long x4]) dX2_oneMorePressed_8 cb_X3_topOf lk_X2_90 st_X3_topOf rfl (Nat.le_of_ble_eq_true rfl) ⟨by decide, by decide⟩ ⟨Nat.le_refl _, Nat.le_refl _, Nat.le_refl _⟩ hb (fun r0 h5 hb => ?_)
  obtain ⟨r6, rfl, hb⟩ := hb
  refine wp_istore (lv2 := [(7, .int r6), (6, .int r3), (0, .ref x0), (1, .long x1), (3, .ref x3), (4, .long x4)]) dX2_oneMorePressed_11 (by decide) rfl ?_
  refine wp_iload 1 dX2_oneMorePressed_13 rfl ?_
  refine wp_iconst (v := (-1)) dX2_oneMorePressed_15 (by decide) ?_
  refine wp_icmp_eq (tgt := 25) dX2_oneMorePressed_16 (by decide) (fun c7 => ?_) (fun c7 => ?_)
  · have hb := hb.1 c7
    refine wp_iconst (v := 0) dX2_oneMorePressed_25 (by decide) ?_
    exact wp_zret rfl dX2_oneMorePressed_26 (Or.inl rfl) ⟨_, rfl, hb⟩
  · have hb := hb.2 c7
    refine wp_iload 0 dX2_oneMorePressed_19 rfl ?_
    refine wp_iconst (v := (-1)) dX2_oneMorePressed_21 (by decide) ?_
    refine wp_icmp_ne (tgt := 27) dX2_oneMorePressed_22 (by decide) (fun c8 => ?_) (fun c8 => ?_)
    · have hb := hb.1 c8
      obtain ⟨i9, hb⟩ := hb
      refine wp_aload_n 2 dX2_oneMorePressed_27 rfl rfl ?_
      obtain ⟨i10, hb⟩ := hb
      refine wp_getR dX2_oneMorePressed_28 fl_X2_125 i9 (i10.ne (by decide)) ?_
      refine wp_iload 1 dX2_oneMorePressed_31 rfl ?_
      obtain ⟨b11, hb⟩ := hb
      refine wp_iaload dX2_oneMorePressed_33 i10 b11 ?_
      refine wp_topi (fun v12 e13 => ?_)
      have hb := hb v12 e13
      refine wp_istore (lv2 := [(8, .int v12), (7, .int r6), (6, .int r3), (0, .ref x0), (1, .long x1), (3, .ref x3), (4, .long x4)]) dX2_oneMorePressed_34 (by decide) rfl ?_
      exact wp_sub [3, 4, 5, 6, 2, 1, 0] rfl hb
    · have hb := hb.2 c8
      refine wp_iconst (v := 0) dX2_oneMorePressed_25 (by decide) ?_
      exact wp_zret rfl dX2_oneMorePressed_26 (Or.inl rfl) ⟨_, rfl, hb⟩
set_option maxRecDepth 100000 in
set_option maxHeartbeats 4000000 in
theorem s_X2_oneMorePressed_36 {l : Launch} {g : AG} {h : AH} {x0 : Nat} {x1 : Int64} {x3 : Nat} {x4 : Int64} {x6 : Int32} {x7 : Int32} {x8 : Int32}  {Q : Int32 → AH → Prop} (hb : (Is 194 x0 0) ∧ ( (Is 194 (h.2.2 x0 15) 20) ∧ ( (vp_in x6 (ax_s (h.2.2 x0 15)).2) ∧ ( ((h.1 (h.2.2 x0 15) x6.toNatClampNeg ≤ x8 → (Q 0 h)) ∧ (¬ (h.1 (h.2.2 x0 15) x6.toNatClampNeg ≤ x8) → ((Is 194 (h.2.2 x0 17) 3) ∧ ( C_X4_hold l g h (h.2.2 x0 17) x8 x1 (fun r21 h20 => ( ((r21 = 0 → (∀ v23 : Int32, v23 = x8 + (1) → ( L_X2_oneMorePressed_36 l g h20 x0 x1 x3 x4 x6 x7 v23  Q))) ∧ (¬ (r21 = 0) → ((Is 194 x3 0) ∧ ( (Is 194 (h20.2.2 x0 9) 21) ∧ ( (vp_in x8 (ax_s (h20.2.2 x0 9)).2) ∧ ( C_X0_buttonNamed l g h20 x3 x7 (h20.2.1 (h20.2.2 x0 9) x8.toNatClampNeg) (fun r30 h29 => ( ((r30 = (-1) → (Q 1 h29)) ∧ (¬ (r30 = (-1)) → ((Is 194 (h29.2.2 x3 17) 3) ∧ ( C_X4_hold l g h29 (h29.2.2 x3 17) r30 x4 (fun r35 h34 => ( ((¬ r35 = 0 → (∀ v37 : Int32, v37 = x8 + (1) → ( L_X2_oneMorePressed_36 l g h34 x0 x1 x3 x4 x6 x7 v37  Q))) ∧ (r35 = 0 → (Q 1 h34))))))))))))))))))))))))))) : L_X2_oneMorePressed_36 l g h x0 x1 x3 x4 x6 x7 x8  Q := by
  refine wp_iload 6 dX2_oneMorePressed_36 rfl ?_
  obtain ⟨i14, hb⟩ := hb
  refine wp_aload_n 0 dX2_oneMorePressed_38 rfl rfl ?_
  obtain ⟨i15, hb⟩ := hb
  refine wp_getR dX2_oneMorePressed_39 fl_X2_128 i14 (i15.ne (by decide)) ?_
  refine wp_iload 4 dX2_oneMorePressed_42 rfl ?_
  obtain ⟨b16, hb⟩ := hb
  refine wp_iaload dX2_oneMorePressed_44 i15 b16 ?_
  refine wp_icmp_ge (tgt := 104) dX2_oneMorePressed_45 (by decide) (fun c17 => ?_) (fun c17 => ?_)
  · have hb := hb.1 c17
    refine wp_iconst (v := 0) dX2_oneMorePressed_104 (by decide) ?_
    exact wp_zret rfl dX2_oneMorePressed_105 (Or.inl rfl) ⟨_, rfl, hb⟩
  · have hb := hb.2 c17
    refine wp_aload_n 0 dX2_oneMorePressed_48 rfl rfl ?_
    obtain ⟨i18, hb⟩ := hb
    refine wp_getR dX2_oneMorePressed_49 fl_X2_131 i14 (i18.ne (by decide)) ?_
    refine wp_iload 6 dX2_oneMorePressed_52 rfl ?_
    refine wp_lload_n 1 dX2_oneMorePressed_54 rfl rfl ?_
    refine wp_callVN (as := [.int x8, .long x1]) dX2_oneMorePressed_55 cb_X4_hold lk_X2_135 im_X4_hold se_X4_hold rfl (Nat.le_of_ble_eq_true rfl) ⟨by decide, by decide⟩ ⟨Nat.le_refl _, Nat.le_refl _, Nat.le_refl _⟩ i18 rfl (by decide) hb (fun r0 h20 hb => ?_)
    obtain ⟨r21, rfl, hb⟩ := hb
    refine wp_if_eq (tgt := 98) dX2_oneMorePressed_58 (by decide) (fun c22 => ?_) (fun c22 => ?_)
    · have hb := hb.1 c22
      obtain ⟨v23, e24⟩ : ∃ y : Int32, y = x8 + (1) := ⟨_, rfl⟩
      have hb := hb v23 e24
      refine wp_iinc (v := v23) (lv2 := [(8, .int v23), (0, .ref x0), (1, .long x1), (3, .ref x3), (4, .long x4), (6, .int x6), (7, .int x7)]) 6 dX2_oneMorePressed_98 rfl (by rw [e24]; rfl) (by decide) rfl ?_
      refine wp_goto (tgt := 36) dX2_oneMorePressed_101 (by decide) ?_
      exact wp_sub [1, 2, 3, 4, 5, 6, 0] rfl hb
    · have hb := hb.2 c22
      obtain ⟨i25, hb⟩ := hb
      refine wp_aload_n 2 dX2_oneMorePressed_61 rfl rfl ?_
      refine wp_iload 5 dX2_oneMorePressed_62 rfl ?_
      refine wp_aload_n 0 dX2_oneMorePressed_64 rfl rfl ?_
      obtain ⟨i26, hb⟩ := hb
      refine wp_getR dX2_oneMorePressed_65 fl_X2_96 i14 (i26.ne (by decide)) ?_
      refine wp_iload 6 dX2_oneMorePressed_68 rfl ?_
      obtain ⟨b27, hb⟩ := hb
      refine wp_laload dX2_oneMorePressed_70 i26 b27 ?_
      refine wp_callVN (as := [.int x7, .long (h20.2.1 (h20.2.2 x0 9) x8.toNatClampNeg)]) dX2_oneMorePressed_71 cb_X0_buttonNamed lk_X2_99 im_X0_buttonNamed se_X0_buttonNamed rfl (Nat.le_of_ble_eq_true rfl) ⟨by decide, by decide⟩ ⟨Nat.le_refl _, Nat.le_refl _, Nat.le_refl _⟩ i25 rfl (by decide) hb (fun r0 h29 hb => ?_)
      obtain ⟨r30, rfl, hb⟩ := hb
      refine wp_istore (lv2 := [(9, .int r30), (0, .ref x0), (1, .long x1), (3, .ref x3), (4, .long x4), (6, .int x6), (7, .int x7), (8, .int x8)]) dX2_oneMorePressed_74 (by decide) rfl ?_
      refine wp_iload 0 dX2_oneMorePressed_76 rfl ?_
      refine wp_iconst (v := (-1)) dX2_oneMorePressed_78 (by decide) ?_
      refine wp_icmp_eq (tgt := 96) dX2_oneMorePressed_79 (by decide) (fun c31 => ?_) (fun c31 => ?_)
      · have hb := hb.1 c31
        refine wp_iconst (v := 1) dX2_oneMorePressed_96 (by decide) ?_
        exact wp_zret rfl dX2_oneMorePressed_97 (Or.inr rfl) ⟨_, rfl, hb⟩
      · have hb := hb.2 c31
        refine wp_aload_n 3 dX2_oneMorePressed_82 rfl rfl ?_
        obtain ⟨i32, hb⟩ := hb
        refine wp_getR dX2_oneMorePressed_83 fl_X2_131 i25 (i32.ne (by decide)) ?_
        refine wp_iload 0 dX2_oneMorePressed_86 rfl ?_
        refine wp_lload 4 dX2_oneMorePressed_88 rfl ?_
        refine wp_callVN (as := [.int r30, .long x4]) dX2_oneMorePressed_90 cb_X4_hold lk_X2_135 im_X4_hold se_X4_hold rfl (Nat.le_of_ble_eq_true rfl) ⟨by decide, by decide⟩ ⟨Nat.le_refl _, Nat.le_refl _, Nat.le_refl _⟩ i32 rfl (by decide) hb (fun r0 h34 hb => ?_)
        obtain ⟨r35, rfl, hb⟩ := hb
        refine wp_if_ne (tgt := 98) dX2_oneMorePressed_93 (by decide) (fun c36 => ?_) (fun c36 => ?_)
        · have hb := hb.1 c36
          obtain ⟨v37, e38⟩ : ∃ y : Int32, y = x8 + (1) := ⟨_, rfl⟩
          have hb := hb v37 e38
          refine wp_iinc (v := v37) (lv2 := [(8, .int v37), (9, .int r30), (0, .ref x0), (1, .long x1), (3, .ref x3), (4, .long x4), (6, .int x6), (7, .int x7)]) 7 dX2_oneMorePressed_98 rfl (by rw [e38]; rfl) (by decide) rfl ?_
          refine wp_goto (tgt := 36) dX2_oneMorePressed_101 (by decide) ?_
          exact wp_sub [2, 3, 4, 5, 6, 7, 0] rfl hb
        · have hb := hb.2 c36
          refine wp_iconst (v := 1) dX2_oneMorePressed_96 (by decide) ?_
          exact wp_zret rfl dX2_oneMorePressed_97 (Or.inr rfl) ⟨_, rfl, hb⟩
theorem c_X2_oneMorePressed {l : Launch} {g : AG} {h : AH} {x0 : Nat} {x1 : Int64} {x3 : Nat} {x4 : Int64}  {Q : Int32 → AH → Prop} (hb : L_X2_oneMorePressed_0 l g h x0 x1 x3 x4  Q) : C_X2_oneMorePressed l g h x0 x1 x3 x4  Q := ax_met rfl (Nat.le_of_ble_eq_true rfl) hb
