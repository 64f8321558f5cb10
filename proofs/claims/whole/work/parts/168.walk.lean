def C_X12_row (l : Launch) (g : AG) (h : AH) (x0 : Nat) (x1 : Int32)  (Q : Int32 → AH → Prop) : Prop := Ct l g mX12_row 0 0 194 194 h [.ref x0, .int x1] (ax_QI Q)
def L_X12_row_0 (l : Launch) (g : AG) (h : AH) (x0 : Nat) (x1 : Int32)  (Q : Int32 → AH → Prop) : Prop := Wp l g mX12_row 0 0 194 194 194 0 [(0, .ref x0), (1, .int x1)] [] h (FM g 194 194 (ax_QI Q))
def L_X12_row_13 (l : Launch) (g : AG) (h : AH) (x0 : Nat) (x1 : Int32) (s0 : Nat) (Q : Int32 → AH → Prop) : Prop := Wp l g mX12_row 0 0 194 194 194 13 [(0, .ref x0), (1, .int x1)] [.ref s0] h (FM g 194 194 (ax_QI Q))
def L_X12_row_18 (l : Launch) (g : AG) (h : AH) (x0 : Nat) (x1 : Int32) (s0 : Int32) (s1 : Nat) (Q : Int32 → AH → Prop) : Prop := Wp l g mX12_row 0 0 194 194 194 18 [(0, .ref x0), (1, .int x1)] [.int s0, .ref s1] h (FM g 194 194 (ax_QI Q))
set_option maxRecDepth 100000 in
set_option maxHeartbeats 4000000 in
theorem s_X12_row_0 {l : Launch} {g : AG} {h : AH} {x0 : Nat} {x1 : Int32}  {Q : Int32 → AH → Prop} (hb : (Is 194 x0 11) ∧ ( ((x1 < 0 → (L_X12_row_13 l g h x0 x1 x0 Q)) ∧ (¬ (x1 < 0) → (((x1 < h.1 x0 40 → (L_X12_row_18 l g h x0 x1 0 x0 Q)) ∧ (¬ (x1 < h.1 x0 40) → (L_X12_row_13 l g h x0 x1 x0 Q)))))))) : L_X12_row_0 l g h x0 x1  Q := by
  obtain ⟨i1, hb⟩ := hb
  refine wp_aload_n 0 dX12_row_0 rfl rfl ?_
  refine wp_iload_n 1 dX12_row_1 rfl rfl ?_
  refine wp_if_lt (tgt := 13) dX12_row_2 (by decide) (fun c2 => ?_) (fun c2 => ?_)
  · have hb := hb.1 c2
    exact hb
  · have hb := hb.2 c2
    refine wp_iload_n 1 dX12_row_5 rfl rfl ?_
    refine wp_aload_n 0 dX12_row_6 rfl rfl ?_
    refine wp_getI dX12_row_7 fl_X12_415 i1 ?_
    refine wp_icmp_lt (tgt := 17) dX12_row_10 (by decide) (fun c3 => ?_) (fun c3 => ?_)
    · have hb := hb.1 c3
      refine wp_iconst (v := 0) dX12_row_17 (by decide) ?_
      exact hb
    · have hb := hb.2 c3
      exact hb
set_option maxRecDepth 100000 in
set_option maxHeartbeats 4000000 in
theorem s_X12_row_13 {l : Launch} {g : AG} {h : AH} {x0 : Nat} {x1 : Int32} {s0 : Nat} {Q : Int32 → AH → Prop} (hb : L_X12_row_18 l g h x0 x1 1 s0 Q) : L_X12_row_13 l g h x0 x1 s0 Q := by
  refine wp_iconst (v := 1) dX12_row_13 (by decide) ?_
  refine wp_goto (tgt := 18) dX12_row_14 (by decide) ?_
  exact hb
set_option maxRecDepth 100000 in
set_option maxHeartbeats 4000000 in
theorem s_X12_row_18 {l : Launch} {g : AG} {h : AH} {x0 : Nat} {x1 : Int32} {s0 : Int32} {s1 : Nat} {Q : Int32 → AH → Prop} (hb : (Is 194 s1 11) ∧ ( ∀ h5 : AH, h5 = ax_setI h s1 0 s0 → ( (Is 194 x0 11) ∧ ( ((h5.1 x0 0 ≤ 0 → ((Is 194 (h5.2.2 x0 39) 20) ∧ ( (vp_in x1 (ax_s (h5.2.2 x0 39)).2) ∧ ( Q (h5.1 (h5.2.2 x0 39) x1.toNatClampNeg) h5)))) ∧ (¬ (h5.1 x0 0 ≤ 0) → (Q 0 h5))))))) : L_X12_row_18 l g h x0 x1 s0 s1 Q := by
  obtain ⟨i4, hb⟩ := hb
  refine wp_putI dX12_row_18 fl_X12_1 (Or.inl rfl) i4 ?_
  refine wp_topH (fun h5 e6 => ?_)
  have hb := hb h5 e6
  obtain ⟨i7, hb⟩ := hb
  refine wp_aload_n 0 dX12_row_21 rfl rfl ?_
  refine wp_getI dX12_row_22 fl_X12_1 i7 ?_
  refine wp_if_le (tgt := 32) dX12_row_25 (by decide) (fun c8 => ?_) (fun c8 => ?_)
  · have hb := hb.1 c8
    refine wp_aload_n 0 dX12_row_32 rfl rfl ?_
    obtain ⟨i9, hb⟩ := hb
    refine wp_getR dX12_row_33 fl_X12_101 i7 (i9.ne (by decide)) ?_
    refine wp_iload_n 1 dX12_row_36 rfl rfl ?_
    obtain ⟨b10, hb⟩ := hb
    refine wp_iaload dX12_row_37 i9 b10 ?_
    exact wp_iret rfl dX12_row_38 ⟨_, rfl, hb⟩
  · have hb := hb.2 c8
    refine wp_iconst (v := 0) dX12_row_28 (by decide) ?_
    refine wp_goto (tgt := 38) dX12_row_29 (by decide) ?_
    exact wp_iret rfl dX12_row_38 ⟨_, rfl, hb⟩
theorem c_X12_row {l : Launch} {g : AG} {h : AH} {x0 : Nat} {x1 : Int32}  {Q : Int32 → AH → Prop} (hb : L_X12_row_0 l g h x0 x1  Q) : C_X12_row l g h x0 x1  Q := ax_met rfl (Nat.le_of_ble_eq_true rfl) hb
def C_X12_sameAct (l : Launch) (g : AG) (h : AH) (x0 : Nat) (x1 : Nat) (x2 : Nat) (x3 : Int32)  (Q : Int32 → AH → Prop) : Prop := Ct l g mX12_sameAct 2 48 194 194 h [.ref x0, .ref x1, .ref x2, .int x3] (ax_QI Q)
def L_X12_sameAct_0 (l : Launch) (g : AG) (h : AH) (x0 : Nat) (x1 : Nat) (x2 : Nat) (x3 : Int32)  (Q : Int32 → AH → Prop) : Prop := Wp l g mX12_sameAct 2 48 194 194 194 0 [(0, .ref x0), (1, .ref x1), (2, .ref x2), (3, .int x3)] [] h (FM g 194 194 (ax_QI Q))
def L_X12_sameAct_32 (l : Launch) (g : AG) (h : AH) (x1 : Nat) (x2 : Nat) (x3 : Int32) (x4 : Int32) (x5 : Int32)  (Q : Int32 → AH → Prop) : Prop := Wp l g mX12_sameAct 2 48 194 194 194 32 [(1, .ref x1), (2, .ref x2), (3, .int x3), (4, .int x4), (5, .int x5)] [] h (FM g 194 194 (ax_QI Q))
def L_X12_sameAct_74 (l : Launch) (g : AG) (h : AH) (x2 : Nat) (x5 : Int32)  (Q : Int32 → AH → Prop) : Prop := Wp l g mX12_sameAct 2 48 194 194 194 74 [(2, .ref x2), (5, .int x5)] [] h (FM g 194 194 (ax_QI Q))
set_option maxRecDepth 100000 in
set_option maxHeartbeats 4000000 in
theorem s_X12_sameAct_0 {l : Launch} {g : AG} {h : AH} {x0 : Nat} {x1 : Nat} {x2 : Nat} {x3 : Int32}  {Q : Int32 → AH → Prop} (hb : (Is 194 x0 11) ∧ ( (Is 194 x2 9) ∧ ( C_X12_possible l g h x0 x2 (fun r5 h4 => ( ((x3 < 24 → (L_X12_sameAct_32 l g h4 x1 x2 x3 r5 0  Q)) ∧ (¬ (x3 < 24) → (((¬ (jishr r5 x3) &&& 1 = 1 → (Q (-1) h4)) ∧ ((jishr r5 x3) &&& 1 = 1 → (Q x3 h4))))))))))) : L_X12_sameAct_0 l g h x0 x1 x2 x3  Q := by
  obtain ⟨i1, hb⟩ := hb
  refine wp_aload_n 0 dX12_sameAct_0 rfl rfl ?_
  obtain ⟨i2, hb⟩ := hb
  refine wp_aload_n 2 dX12_sameAct_1 rfl rfl ?_
  refine wp_callV (as := [.ref x2]) dX12_sameAct_2 cb_X12_possible lk_X12_381 im_X12_possible se_X12_possible rfl (Nat.le_of_ble_eq_true rfl) ⟨by decide, by decide⟩ ⟨Nat.le_refl _, Nat.le_refl _, Nat.le_refl _⟩ i1 rfl (by decide) hb (fun r0 h4 hb => ?_)
  obtain ⟨r5, rfl, hb⟩ := hb
  refine wp_istore (lv2 := [(4, .int r5), (0, .ref x0), (1, .ref x1), (2, .ref x2), (3, .int x3)]) dX12_sameAct_5 (by decide) rfl ?_
  refine wp_iload_n 4 dX12_sameAct_7 rfl rfl ?_
  refine wp_bipush (v := 24) dX12_sameAct_8 (by decide) ?_
  refine wp_icmp_lt (tgt := 29) dX12_sameAct_10 (by decide) (fun c6 => ?_) (fun c6 => ?_)
  · have hb := hb.1 c6
    refine wp_iconst (v := 0) dX12_sameAct_29 (by decide) ?_
    refine wp_istore (lv2 := [(5, .int 0), (4, .int r5), (0, .ref x0), (1, .ref x1), (2, .ref x2), (3, .int x3)]) dX12_sameAct_30 (by decide) rfl ?_
    exact wp_sub [3, 4, 5, 1, 0] rfl hb
  · have hb := hb.2 c6
    refine wp_iload 0 dX12_sameAct_13 rfl ?_
    refine wp_iload_n 4 dX12_sameAct_15 rfl rfl ?_
    refine wp_ishr dX12_sameAct_16 ?_
    refine wp_iconst (v := 1) dX12_sameAct_17 (by decide) ?_
    refine wp_iand dX12_sameAct_18 ?_
    refine wp_iconst (v := 1) dX12_sameAct_19 (by decide) ?_
    refine wp_icmp_ne (tgt := 27) dX12_sameAct_20 (by decide) (fun c7 => ?_) (fun c7 => ?_)
    · have hb := hb.1 c7
      refine wp_iconst (v := (-1)) dX12_sameAct_27 (by decide) ?_
      exact wp_iret rfl dX12_sameAct_28 ⟨_, rfl, hb⟩
    · have hb := hb.2 c7
      refine wp_iload_n 4 dX12_sameAct_23 rfl rfl ?_
      refine wp_goto (tgt := 28) dX12_sameAct_24 (by decide) ?_
      exact wp_iret rfl dX12_sameAct_28 ⟨_, rfl, hb⟩
set_option maxRecDepth 100000 in
set_option maxHeartbeats 4000000 in
theorem s_X12_sameAct_32 {l : Launch} {g : AG} {h : AH} {x1 : Nat} {x2 : Nat} {x3 : Int32} {x4 : Int32} {x5 : Int32}  {Q : Int32 → AH → Prop} (hb : (Is 194 x2 9) ∧ ( ((h.1 x2 1 ≤ x5 → (L_X12_sameAct_74 l g h x2 x5  Q)) ∧ (¬ (h.1 x2 1 ≤ x5) → ((((jishr x4 x5) &&& 1 = 0 → (∀ v11 : Int32, v11 = x5 + (1) → ( L_X12_sameAct_32 l g h x1 x2 x3 x4 v11  Q))) ∧ (¬ ((jishr x4 x5) &&& 1 = 0) → ((Is 194 (h.2.2 x2 4) 21) ∧ ( (vp_in x5 (ax_s (h.2.2 x2 4)).2) ∧ ( (Is 194 x1 9) ∧ ( (Is 194 (h.2.2 x1 4) 21) ∧ ( (vp_in x3 (ax_s (h.2.2 x1 4)).2) ∧ ( ((lg_cmp (h.2.1 (h.2.2 x2 4) x5.toNatClampNeg) (h.2.1 (h.2.2 x1 4) x3.toNatClampNeg) = 0 → (L_X12_sameAct_74 l g h x2 x5  Q)) ∧ (¬ (lg_cmp (h.2.1 (h.2.2 x2 4) x5.toNatClampNeg) (h.2.1 (h.2.2 x1 4) x3.toNatClampNeg) = 0) → (∀ v19 : Int32, v19 = x5 + (1) → ( L_X12_sameAct_32 l g h x1 x2 x3 x4 v19  Q))))))))))))))))) : L_X12_sameAct_32 l g h x1 x2 x3 x4 x5  Q := by
  refine wp_iload 4 dX12_sameAct_32 rfl ?_
  obtain ⟨i8, hb⟩ := hb
  refine wp_aload_n 1 dX12_sameAct_34 rfl rfl ?_
  refine wp_getI dX12_sameAct_35 fl_X12_208 i8 ?_
  refine wp_icmp_ge (tgt := 74) dX12_sameAct_38 (by decide) (fun c9 => ?_) (fun c9 => ?_)
  · have hb := hb.1 c9
    exact wp_sub [1, 4] rfl hb
  · have hb := hb.2 c9
    refine wp_iload 3 dX12_sameAct_41 rfl ?_
    refine wp_iload 4 dX12_sameAct_43 rfl ?_
    refine wp_ishr dX12_sameAct_45 ?_
    refine wp_iconst (v := 1) dX12_sameAct_46 (by decide) ?_
    refine wp_iand dX12_sameAct_47 ?_
    refine wp_if_eq (tgt := 68) dX12_sameAct_48 (by decide) (fun c10 => ?_) (fun c10 => ?_)
    · have hb := hb.1 c10
      obtain ⟨v11, e12⟩ : ∃ y : Int32, y = x5 + (1) := ⟨_, rfl⟩
      have hb := hb v11 e12
      refine wp_iinc (v := v11) (lv2 := [(5, .int v11), (1, .ref x1), (2, .ref x2), (3, .int x3), (4, .int x4)]) 4 dX12_sameAct_68 rfl (by rw [e12]; rfl) (by decide) rfl ?_
      refine wp_goto (tgt := 32) dX12_sameAct_71 (by decide) ?_
      exact wp_sub [1, 2, 3, 4, 0] rfl hb
    · have hb := hb.2 c10
      refine wp_aload_n 1 dX12_sameAct_51 rfl rfl ?_
      obtain ⟨i13, hb⟩ := hb
      refine wp_getR dX12_sameAct_52 fl_X12_264 i8 (i13.ne (by decide)) ?_
      refine wp_iload 4 dX12_sameAct_55 rfl ?_
      obtain ⟨b14, hb⟩ := hb
      refine wp_laload dX12_sameAct_57 i13 b14 ?_
      obtain ⟨i15, hb⟩ := hb
      refine wp_aload_n 0 dX12_sameAct_58 rfl rfl ?_
      obtain ⟨i16, hb⟩ := hb
      refine wp_getR dX12_sameAct_59 fl_X12_264 i15 (i16.ne (by decide)) ?_
      refine wp_iload_n 2 dX12_sameAct_62 rfl rfl ?_
      obtain ⟨b17, hb⟩ := hb
      refine wp_laload dX12_sameAct_63 i16 b17 ?_
      refine wp_lcmp dX12_sameAct_64 ?_
      refine wp_if_eq (tgt := 74) dX12_sameAct_65 (by decide) (fun c18 => ?_) (fun c18 => ?_)
      · have hb := hb.1 c18
        exact wp_sub [1, 4] rfl hb
      · have hb := hb.2 c18
        obtain ⟨v19, e20⟩ : ∃ y : Int32, y = x5 + (1) := ⟨_, rfl⟩
        have hb := hb v19 e20
        refine wp_iinc (v := v19) (lv2 := [(5, .int v19), (1, .ref x1), (2, .ref x2), (3, .int x3), (4, .int x4)]) 4 dX12_sameAct_68 rfl (by rw [e20]; rfl) (by decide) rfl ?_
        refine wp_goto (tgt := 32) dX12_sameAct_71 (by decide) ?_
        exact wp_sub [1, 2, 3, 4, 0] rfl hb
set_option maxRecDepth 100000 in
set_option maxHeartbeats 4000000 in
theorem s_X12_sameAct_74 {l : Launch} {g : AG} {h : AH} {x2 : Nat} {x5 : Int32}  {Q : Int32 → AH → Prop} (hb : (Is 194 x2 9) ∧ ( ((h.1 x2 1 ≤ x5 → (Q (-1) h)) ∧ (¬ (h.1 x2 1 ≤ x5) → (Q x5 h))))) : L_X12_sameAct_74 l g h x2 x5  Q := by
  refine wp_iload 1 dX12_sameAct_74 rfl ?_
  obtain ⟨i21, hb⟩ := hb
  refine wp_aload_n 0 dX12_sameAct_76 rfl rfl ?_
  refine wp_getI dX12_sameAct_77 fl_X12_208 i21 ?_
  refine wp_icmp_ge (tgt := 88) dX12_sameAct_80 (by decide) (fun c22 => ?_) (fun c22 => ?_)
  · have hb := hb.1 c22
    refine wp_iconst (v := (-1)) dX12_sameAct_88 (by decide) ?_
    exact wp_iret rfl dX12_sameAct_89 ⟨_, rfl, hb⟩
  · have hb := hb.2 c22
    refine wp_iload 1 dX12_sameAct_83 rfl ?_
    refine wp_goto (tgt := 89) dX12_sameAct_85 (by decide) ?_
    exact wp_iret rfl dX12_sameAct_89 ⟨_, rfl, hb⟩
theorem c_X12_sameAct {l : Launch} {g : AG} {h : AH} {x0 : Nat} {x1 : Nat} {x2 : Nat} {x3 : Int32}  {Q : Int32 → AH → Prop} (hb : L_X12_sameAct_0 l g h x0 x1 x2 x3  Q) : C_X12_sameAct l g h x0 x1 x2 x3  Q := ax_met rfl (Nat.le_of_ble_eq_true rfl) hb
def C_X12_sees (l : Launch) (g : AG) (h : AH) (x0 : Nat) (x1 : Nat)  (Q : AH → Prop) : Prop := Ct l g mX12_sees 1 27 194 194 h [.ref x0, .ref x1] (ax_QV Q)
def L_X12_sees_0 (l : Launch) (g : AG) (h : AH) (x0 : Nat) (x1 : Nat)  (Q : AH → Prop) : Prop := Wp l g mX12_sees 1 27 194 194 194 0 [(0, .ref x0), (1, .ref x1)] [] h (FM g 194 194 (ax_QV Q))
def L_X12_sees_53 (l : Launch) (g : AG) (h : AH) (x0 : Nat) (x1 : Nat) (x2 : Int32)  (Q : AH → Prop) : Prop := Wp l g mX12_sees 1 27 194 194 194 53 [(0, .ref x0), (1, .ref x1), (2, .int x2)] [] h (FM g 194 194 (ax_QV Q))
def L_X12_sees_116 (l : Launch) (g : AG) (h : AH) (x0 : Nat) (x1 : Nat) (x3 : Int32) (x4 : Int32)  (Q : AH → Prop) : Prop := Wp l g mX12_sees 1 27 194 194 194 116 [(0, .ref x0), (1, .ref x1), (3, .int x3), (4, .int x4)] [] h (FM g 194 194 (ax_QV Q))
set_option maxRecDepth 100000 in
set_option maxHeartbeats 4000000 in
theorem s_X12_sees_0 {l : Launch} {g : AG} {h : AH} {x0 : Nat} {x1 : Nat}  {Q : AH → Prop} (hb : (Is 194 x0 11) ∧ ( ∀ h2 : AH, h2 = ax_setI h x0 50 (h.1 x0 19) → ( ∀ h4 : AH, h4 = ax_setI h2 x0 51 0 → ( ∀ h6 : AH, h6 = ax_setI h4 x0 52 0 → ( ∀ h8 : AH, h8 = ax_setL h6 x0 53 0 → ( ((h8.1 x0 19 ≤ 0 → ((Is 194 (h8.2.2 x0 21) 20) ∧ ( (vp_in ((h8.1 x0 20) - 1) (ax_s (h8.2.2 x0 21)).2) ∧ ( ∀ v13 : Int32, v13 = (h8.1 (h8.2.2 x0 21) ((h8.1 x0 20) - 1).toNatClampNeg) → ( (Is 194 x1 9) ∧ ( (Is 194 (h8.2.2 x1 3) 21) ∧ ( (vp_in v13 (ax_s (h8.2.2 x1 3)).2) ∧ ( ∀ h18 : AH, h18 = ax_setL h8 x0 53 (h8.2.1 (h8.2.2 x1 3) v13.toNatClampNeg) → ( L_X12_sees_53 l g h18 x0 x1 v13  Q))))))))) ∧ (¬ (h8.1 x0 19 ≤ 0) → (Q h8))))))))) : L_X12_sees_0 l g h x0 x1  Q := by
  obtain ⟨i1, hb⟩ := hb
  refine wp_aload_n 0 dX12_sees_0 rfl rfl ?_
  refine wp_aload_n 0 dX12_sees_1 rfl rfl ?_
  refine wp_getI dX12_sees_2 fl_X12_343 i1 ?_
  refine wp_putI dX12_sees_5 fl_X12_425 (Or.inl rfl) i1 ?_
  refine wp_topH (fun h2 e3 => ?_)
  have hb := hb h2 e3
  refine wp_aload_n 0 dX12_sees_8 rfl rfl ?_
  refine wp_iconst (v := 0) dX12_sees_9 (by decide) ?_
  refine wp_putI dX12_sees_10 fl_X12_428 (Or.inl rfl) i1 ?_
  refine wp_topH (fun h4 e5 => ?_)
  have hb := hb h4 e5
  refine wp_aload_n 0 dX12_sees_13 rfl rfl ?_
  refine wp_iconst (v := 0) dX12_sees_14 (by decide) ?_
  refine wp_putI dX12_sees_15 fl_X12_431 (Or.inl rfl) i1 ?_
  refine wp_topH (fun h6 e7 => ?_)
  have hb := hb h6 e7
  refine wp_aload_n 0 dX12_sees_18 rfl rfl ?_
  refine wp_lconst (v := 0) dX12_sees_19 (by decide) ?_
  refine wp_putL dX12_sees_20 fl_X12_434 (Or.inl rfl) i1 ?_
  refine wp_topH (fun h8 e9 => ?_)
  have hb := hb h8 e9
  refine wp_aload_n 0 dX12_sees_23 rfl rfl ?_
  refine wp_getI dX12_sees_24 fl_X12_343 i1 ?_
  refine wp_if_le (tgt := 31) dX12_sees_27 (by decide) (fun c10 => ?_) (fun c10 => ?_)
  · have hb := hb.1 c10
    refine wp_aload_n 0 dX12_sees_31 rfl rfl ?_
    obtain ⟨i11, hb⟩ := hb
    refine wp_getR dX12_sees_32 fl_X12_52 i1 (i11.ne (by decide)) ?_
    refine wp_aload_n 0 dX12_sees_35 rfl rfl ?_
    refine wp_getI dX12_sees_36 fl_X12_346 i1 ?_
    refine wp_iconst (v := 1) dX12_sees_39 (by decide) ?_
    refine wp_isub dX12_sees_40 ?_
    obtain ⟨b12, hb⟩ := hb
    refine wp_iaload dX12_sees_41 i11 b12 ?_
    refine wp_topi (fun v13 e14 => ?_)
    have hb := hb v13 e14
    refine wp_istore_n (lv2 := [(2, .int v13), (0, .ref x0), (1, .ref x1)]) dX12_sees_42 rfl (by decide) rfl ?_
    refine wp_aload_n 1 dX12_sees_43 rfl rfl ?_
    obtain ⟨i15, hb⟩ := hb
    refine wp_aload_n 2 dX12_sees_44 rfl rfl ?_
    obtain ⟨i16, hb⟩ := hb
    refine wp_getR dX12_sees_45 fl_X12_228 i15 (i16.ne (by decide)) ?_
    refine wp_iload_n 0 dX12_sees_48 rfl rfl ?_
    obtain ⟨b17, hb⟩ := hb
    refine wp_laload dX12_sees_49 i16 b17 ?_
    refine wp_putL dX12_sees_50 fl_X12_434 (Or.inl rfl) i1 ?_
    refine wp_topH (fun h18 e19 => ?_)
    have hb := hb h18 e19
    exact wp_sub [1, 2, 0] rfl hb
  · have hb := hb.2 c10
    exact wp_vret rfl dX12_sees_30 ⟨rfl, hb⟩
set_option maxRecDepth 100000 in
set_option maxHeartbeats 4000000 in
theorem s_X12_sees_53 {l : Launch} {g : AG} {h : AH} {x0 : Nat} {x1 : Nat} {x2 : Int32}  {Q : AH → Prop} (hb : (Is 194 x0 11) ∧ ( (Is 194 x1 9) ∧ ( (Is 194 (h.2.2 x1 7) 20) ∧ ( (vp_in x2 (ax_s (h.2.2 x1 7)).2) ∧ ( ((h.1 (h.2.2 x1 7) x2.toNatClampNeg ≤ h.1 x0 51 → (C_X12_pressed l g h x0 x1 (fun r27 h26 => ( L_X12_sees_116 l g h26 x0 x1 r27 0  Q)))) ∧ (¬ (h.1 (h.2.2 x1 7) x2.toNatClampNeg ≤ h.1 x0 51) → ((Is 194 (h.2.2 x0 54) 20) ∧ ( (Is 194 (h.2.2 x0 23) 20) ∧ ( (Is 194 (h.2.2 x1 8) 20) ∧ ( (vp_in ((6 * x2) + (h.1 x0 51)) (ax_s (h.2.2 x1 8)).2) ∧ ( ∀ v32 : Int32, v32 = (h.1 (h.2.2 x1 8) ((6 * x2) + (h.1 x0 51)).toNatClampNeg) → ( (vp_in v32 (ax_s (h.2.2 x0 23)).2) ∧ ( (vp_in (h.1 x0 51) (ax_s (h.2.2 x0 54)).2) ∧ ( ∀ h36 : AH, h36 = ax_setI h (h.2.2 x0 54) (h.1 x0 51).toNatClampNeg (h.1 (h.2.2 x0 23) v32.toNatClampNeg) → ( ∀ h38 : AH, h38 = ax_setI h36 x0 51 ((h36.1 x0 51) + 1) → ( L_X12_sees_53 l g h38 x0 x1 x2  Q))))))))))))))))) : L_X12_sees_53 l g h x0 x1 x2  Q := by
  obtain ⟨i20, hb⟩ := hb
  refine wp_aload_n 0 dX12_sees_53 rfl rfl ?_
  refine wp_getI dX12_sees_54 fl_X12_428 i20 ?_
  obtain ⟨i21, hb⟩ := hb
  refine wp_aload_n 1 dX12_sees_57 rfl rfl ?_
  obtain ⟨i22, hb⟩ := hb
  refine wp_getR dX12_sees_58 fl_X12_252 i21 (i22.ne (by decide)) ?_
  refine wp_iload_n 2 dX12_sees_61 rfl rfl ?_
  obtain ⟨b23, hb⟩ := hb
  refine wp_iaload dX12_sees_62 i22 b23 ?_
  refine wp_icmp_ge (tgt := 107) dX12_sees_63 (by decide) (fun c24 => ?_) (fun c24 => ?_)
  · have hb := hb.1 c24
    refine wp_aload_n 0 dX12_sees_107 rfl rfl ?_
    refine wp_aload_n 1 dX12_sees_108 rfl rfl ?_
    refine wp_callV (as := [.ref x1]) dX12_sees_109 cb_X12_pressed lk_X12_354 im_X12_pressed se_X12_pressed rfl (Nat.le_of_ble_eq_true rfl) ⟨by decide, by decide⟩ ⟨Nat.le_refl _, Nat.le_refl _, Nat.le_refl _⟩ i20 rfl (by decide) hb (fun r0 h26 hb => ?_)
    obtain ⟨r27, rfl, hb⟩ := hb
    refine wp_istore_n (lv2 := [(3, .int r27), (0, .ref x0), (1, .ref x1), (2, .int x2)]) dX12_sees_112 rfl (by decide) rfl ?_
    refine wp_iconst (v := 0) dX12_sees_113 (by decide) ?_
    refine wp_istore (lv2 := [(4, .int 0), (3, .int r27), (0, .ref x0), (1, .ref x1), (2, .int x2)]) dX12_sees_114 (by decide) rfl ?_
    exact wp_sub [2, 3, 1, 0] rfl hb
  · have hb := hb.2 c24
    refine wp_aload_n 0 dX12_sees_66 rfl rfl ?_
    obtain ⟨i28, hb⟩ := hb
    refine wp_getR dX12_sees_67 fl_X12_125 i20 (i28.ne (by decide)) ?_
    refine wp_aload_n 0 dX12_sees_70 rfl rfl ?_
    refine wp_getI dX12_sees_71 fl_X12_428 i20 ?_
    refine wp_aload_n 0 dX12_sees_74 rfl rfl ?_
    obtain ⟨i29, hb⟩ := hb
    refine wp_getR dX12_sees_75 fl_X12_59 i20 (i29.ne (by decide)) ?_
    refine wp_aload_n 1 dX12_sees_78 rfl rfl ?_
    obtain ⟨i30, hb⟩ := hb
    refine wp_getR dX12_sees_79 fl_X12_257 i21 (i30.ne (by decide)) ?_
    refine wp_bipush (v := 6) dX12_sees_82 (by decide) ?_
    refine wp_iload_n 2 dX12_sees_84 rfl rfl ?_
    refine wp_imul dX12_sees_85 ?_
    refine wp_aload_n 0 dX12_sees_86 rfl rfl ?_
    refine wp_getI dX12_sees_87 fl_X12_428 i20 ?_
    refine wp_iadd dX12_sees_90 ?_
    obtain ⟨b31, hb⟩ := hb
    refine wp_iaload dX12_sees_91 i30 b31 ?_
    refine wp_topi (fun v32 e33 => ?_)
    have hb := hb v32 e33
    obtain ⟨b34, hb⟩ := hb
    refine wp_iaload dX12_sees_92 i29 b34 ?_
    obtain ⟨b35, hb⟩ := hb
    refine wp_iastore dX12_sees_93 i28 b35 ?_
    refine wp_topH (fun h36 e37 => ?_)
    have hb := hb h36 e37
    refine wp_aload_n 0 dX12_sees_94 rfl rfl ?_
    refine wp_dup dX12_sees_95 rfl ?_
    refine wp_getI dX12_sees_96 fl_X12_428 i20 ?_
    refine wp_iconst (v := 1) dX12_sees_99 (by decide) ?_
    refine wp_iadd dX12_sees_100 ?_
    refine wp_putI dX12_sees_101 fl_X12_428 (Or.inl rfl) i20 ?_
    refine wp_topH (fun h38 e39 => ?_)
    have hb := hb h38 e39
    refine wp_goto (tgt := 53) dX12_sees_104 (by decide) ?_
    exact hb
set_option maxRecDepth 100000 in
set_option maxHeartbeats 4000000 in
theorem s_X12_sees_116 {l : Launch} {g : AG} {h : AH} {x0 : Nat} {x1 : Nat} {x3 : Int32} {x4 : Int32}  {Q : AH → Prop} (hb : (Is 194 x1 9) ∧ ( ((h.1 x1 1 ≤ x4 → (Q h)) ∧ (¬ (h.1 x1 1 ≤ x4) → (((¬ (jishr x3 x4) &&& 1 = 0 → ((Is 194 x0 11) ∧ ( (Is 194 (h.2.2 x0 55) 21) ∧ ( (Is 194 (h.2.2 x1 4) 21) ∧ ( (vp_in x4 (ax_s (h.2.2 x1 4)).2) ∧ ( (vp_in (h.1 x0 52) (ax_s (h.2.2 x0 55)).2) ∧ ( ∀ h48 : AH, h48 = ax_setL h (h.2.2 x0 55) (h.1 x0 52).toNatClampNeg (h.2.1 (h.2.2 x1 4) x4.toNatClampNeg) → ( ∀ h50 : AH, h50 = ax_setI h48 x0 52 ((h48.1 x0 52) + 1) → ( ∀ v52 : Int32, v52 = x4 + (1) → ( L_X12_sees_116 l g h50 x0 x1 x3 v52  Q)))))))))) ∧ ((jishr x3 x4) &&& 1 = 0 → (∀ v54 : Int32, v54 = x4 + (1) → ( L_X12_sees_116 l g h x0 x1 x3 v54  Q))))))))) : L_X12_sees_116 l g h x0 x1 x3 x4  Q := by
  refine wp_iload 3 dX12_sees_116 rfl ?_
  obtain ⟨i40, hb⟩ := hb
  refine wp_aload_n 1 dX12_sees_118 rfl rfl ?_
  refine wp_getI dX12_sees_119 fl_X12_208 i40 ?_
  refine wp_icmp_ge (tgt := 169) dX12_sees_122 (by decide) (fun c41 => ?_) (fun c41 => ?_)
  · have hb := hb.1 c41
    exact wp_vret rfl dX12_sees_169 ⟨rfl, hb⟩
  · have hb := hb.2 c41
    refine wp_iload_n 2 dX12_sees_125 rfl rfl ?_
    refine wp_iload 3 dX12_sees_126 rfl ?_
    refine wp_ishr dX12_sees_128 ?_
    refine wp_iconst (v := 1) dX12_sees_129 (by decide) ?_
    refine wp_iand dX12_sees_130 ?_
    refine wp_if_ne (tgt := 137) dX12_sees_131 (by decide) (fun c42 => ?_) (fun c42 => ?_)
    · have hb := hb.1 c42
      obtain ⟨i43, hb⟩ := hb
      refine wp_aload_n 0 dX12_sees_137 rfl rfl ?_
      obtain ⟨i44, hb⟩ := hb
      refine wp_getR dX12_sees_138 fl_X12_128 i43 (i44.ne (by decide)) ?_
      refine wp_aload_n 0 dX12_sees_141 rfl rfl ?_
      refine wp_getI dX12_sees_142 fl_X12_431 i43 ?_
      refine wp_aload_n 1 dX12_sees_145 rfl rfl ?_
      obtain ⟨i45, hb⟩ := hb
      refine wp_getR dX12_sees_146 fl_X12_264 i40 (i45.ne (by decide)) ?_
      refine wp_iload 3 dX12_sees_149 rfl ?_
      obtain ⟨b46, hb⟩ := hb
      refine wp_laload dX12_sees_151 i45 b46 ?_
      obtain ⟨b47, hb⟩ := hb
      refine wp_lastore dX12_sees_152 i44 b47 ?_
      refine wp_topH (fun h48 e49 => ?_)
      have hb := hb h48 e49
      refine wp_aload_n 0 dX12_sees_153 rfl rfl ?_
      refine wp_dup dX12_sees_154 rfl ?_
      refine wp_getI dX12_sees_155 fl_X12_431 i43 ?_
      refine wp_iconst (v := 1) dX12_sees_158 (by decide) ?_
      refine wp_iadd dX12_sees_159 ?_
      refine wp_putI dX12_sees_160 fl_X12_431 (Or.inl rfl) i43 ?_
      refine wp_topH (fun h50 e51 => ?_)
      have hb := hb h50 e51
      obtain ⟨v52, e53⟩ : ∃ y : Int32, y = x4 + (1) := ⟨_, rfl⟩
      have hb := hb v52 e53
      refine wp_iinc (v := v52) (lv2 := [(4, .int v52), (0, .ref x0), (1, .ref x1), (3, .int x3)]) 3 dX12_sees_163 rfl (by rw [e53]; rfl) (by decide) rfl ?_
      refine wp_goto (tgt := 116) dX12_sees_166 (by decide) ?_
      exact wp_sub [1, 2, 3, 0] rfl hb
    · have hb := hb.2 c42
      refine wp_goto (tgt := 163) dX12_sees_134 (by decide) ?_
      obtain ⟨v54, e55⟩ : ∃ y : Int32, y = x4 + (1) := ⟨_, rfl⟩
      have hb := hb v54 e55
      refine wp_iinc (v := v54) (lv2 := [(4, .int v54), (0, .ref x0), (1, .ref x1), (3, .int x3)]) 3 dX12_sees_163 rfl (by rw [e55]; rfl) (by decide) rfl ?_
      refine wp_goto (tgt := 116) dX12_sees_166 (by decide) ?_
      exact wp_sub [1, 2, 3, 0] rfl hb
theorem c_X12_sees {l : Launch} {g : AG} {h : AH} {x0 : Nat} {x1 : Nat}  {Q : AH → Prop} (hb : L_X12_sees_0 l g h x0 x1  Q) : C_X12_sees l g h x0 x1  Q := ax_met rfl (Nat.le_of_ble_eq_true rfl) hb
