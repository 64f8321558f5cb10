def C_X8_isComparison (l : Launch) (g : AG) (h : AH) (x0 : Int32)  (Q : Int32 → AH → Prop) : Prop := Ct l g mX8_isComparison 0 0 194 194 h [.int x0] (ax_QI Q)
def L_X8_isComparison_0 (l : Launch) (g : AG) (h : AH) (x0 : Int32)  (Q : Int32 → AH → Prop) : Prop := Wp l g mX8_isComparison 0 0 194 194 194 0 [(0, .int x0)] [] h (FM g 194 194 (ax_QI Q))
set_option maxRecDepth 100000 in
set_option maxHeartbeats 4000000 in
theorem s_X8_isComparison_0 {l : Launch} {g : AG} {h : AH} {x0 : Int32}  {Q : Int32 → AH → Prop} (hb : ((x0 = 61 → (Q 1 h)) ∧ (¬ (x0 = 61) → (((x0 = 60 → (Q 1 h)) ∧ (¬ (x0 = 60) → (((¬ x0 = 62 → (Q 0 h)) ∧ (x0 = 62 → (Q 1 h)))))))))) : L_X8_isComparison_0 l g h x0  Q := by
  refine wp_iload_n 0 dX8_isComparison_0 rfl rfl ?_
  refine wp_bipush (v := 61) dX8_isComparison_1 (by decide) ?_
  refine wp_icmp_eq (tgt := 18) dX8_isComparison_3 (by decide) (fun c1 => ?_) (fun c1 => ?_)
  · have hb := hb.1 c1
    refine wp_iconst (v := 1) dX8_isComparison_18 (by decide) ?_
    refine wp_goto (tgt := 23) dX8_isComparison_19 (by decide) ?_
    exact wp_zret rfl dX8_isComparison_23 (Or.inr rfl) ⟨_, rfl, hb⟩
  · have hb := hb.2 c1
    refine wp_iload_n 0 dX8_isComparison_6 rfl rfl ?_
    refine wp_bipush (v := 60) dX8_isComparison_7 (by decide) ?_
    refine wp_icmp_eq (tgt := 18) dX8_isComparison_9 (by decide) (fun c2 => ?_) (fun c2 => ?_)
    · have hb := hb.1 c2
      refine wp_iconst (v := 1) dX8_isComparison_18 (by decide) ?_
      refine wp_goto (tgt := 23) dX8_isComparison_19 (by decide) ?_
      exact wp_zret rfl dX8_isComparison_23 (Or.inr rfl) ⟨_, rfl, hb⟩
    · have hb := hb.2 c2
      refine wp_iload_n 0 dX8_isComparison_12 rfl rfl ?_
      refine wp_bipush (v := 62) dX8_isComparison_13 (by decide) ?_
      refine wp_icmp_ne (tgt := 22) dX8_isComparison_15 (by decide) (fun c3 => ?_) (fun c3 => ?_)
      · have hb := hb.1 c3
        refine wp_iconst (v := 0) dX8_isComparison_22 (by decide) ?_
        exact wp_zret rfl dX8_isComparison_23 (Or.inl rfl) ⟨_, rfl, hb⟩
      · have hb := hb.2 c3
        refine wp_iconst (v := 1) dX8_isComparison_18 (by decide) ?_
        refine wp_goto (tgt := 23) dX8_isComparison_19 (by decide) ?_
        exact wp_zret rfl dX8_isComparison_23 (Or.inr rfl) ⟨_, rfl, hb⟩
theorem c_X8_isComparison {l : Launch} {g : AG} {h : AH} {x0 : Int32}  {Q : Int32 → AH → Prop} (hb : L_X8_isComparison_0 l g h x0  Q) : C_X8_isComparison l g h x0  Q := ax_met rfl (Nat.le_of_ble_eq_true rfl) hb
def C_X8_isSign (l : Launch) (g : AG) (h : AH) (x0 : Int32)  (Q : Int32 → AH → Prop) : Prop := Ct l g mX8_isSign 1 20 194 194 h [.int x0] (ax_QI Q)
def L_X8_isSign_0 (l : Launch) (g : AG) (h : AH) (x0 : Int32)  (Q : Int32 → AH → Prop) : Prop := Wp l g mX8_isSign 1 20 194 194 194 0 [(0, .int x0)] [] h (FM g 194 194 (ax_QI Q))
set_option maxRecDepth 100000 in
set_option maxHeartbeats 4000000 in
theorem s_X8_isSign_0 {l : Launch} {g : AG} {h : AH} {x0 : Int32}  {Q : Int32 → AH → Prop} (hb : ((x0 = 123 → (Q 1 h)) ∧ (¬ (x0 = 123) → (((x0 = 125 → (Q 1 h)) ∧ (¬ (x0 = 125) → (((x0 = 59 → (Q 1 h)) ∧ (¬ (x0 = 59) → (((x0 = 44 → (Q 1 h)) ∧ (¬ (x0 = 44) → (C_X8_isComparison l g h x0 (fun r7 h6 => ( ((r7 = 0 → (Q 0 h6)) ∧ (¬ (r7 = 0) → (Q 1 h6)))))))))))))))))) : L_X8_isSign_0 l g h x0  Q := by
  refine wp_iload_n 0 dX8_isSign_0 rfl rfl ?_
  refine wp_bipush (v := 123) dX8_isSign_1 (by decide) ?_
  refine wp_icmp_eq (tgt := 31) dX8_isSign_3 (by decide) (fun c1 => ?_) (fun c1 => ?_)
  · have hb := hb.1 c1
    refine wp_iconst (v := 1) dX8_isSign_31 (by decide) ?_
    refine wp_goto (tgt := 36) dX8_isSign_32 (by decide) ?_
    exact wp_zret rfl dX8_isSign_36 (Or.inr rfl) ⟨_, rfl, hb⟩
  · have hb := hb.2 c1
    refine wp_iload_n 0 dX8_isSign_6 rfl rfl ?_
    refine wp_bipush (v := 125) dX8_isSign_7 (by decide) ?_
    refine wp_icmp_eq (tgt := 31) dX8_isSign_9 (by decide) (fun c2 => ?_) (fun c2 => ?_)
    · have hb := hb.1 c2
      refine wp_iconst (v := 1) dX8_isSign_31 (by decide) ?_
      refine wp_goto (tgt := 36) dX8_isSign_32 (by decide) ?_
      exact wp_zret rfl dX8_isSign_36 (Or.inr rfl) ⟨_, rfl, hb⟩
    · have hb := hb.2 c2
      refine wp_iload_n 0 dX8_isSign_12 rfl rfl ?_
      refine wp_bipush (v := 59) dX8_isSign_13 (by decide) ?_
      refine wp_icmp_eq (tgt := 31) dX8_isSign_15 (by decide) (fun c3 => ?_) (fun c3 => ?_)
      · have hb := hb.1 c3
        refine wp_iconst (v := 1) dX8_isSign_31 (by decide) ?_
        refine wp_goto (tgt := 36) dX8_isSign_32 (by decide) ?_
        exact wp_zret rfl dX8_isSign_36 (Or.inr rfl) ⟨_, rfl, hb⟩
      · have hb := hb.2 c3
        refine wp_iload_n 0 dX8_isSign_18 rfl rfl ?_
        refine wp_bipush (v := 44) dX8_isSign_19 (by decide) ?_
        refine wp_icmp_eq (tgt := 31) dX8_isSign_21 (by decide) (fun c4 => ?_) (fun c4 => ?_)
        · have hb := hb.1 c4
          refine wp_iconst (v := 1) dX8_isSign_31 (by decide) ?_
          refine wp_goto (tgt := 36) dX8_isSign_32 (by decide) ?_
          exact wp_zret rfl dX8_isSign_36 (Or.inr rfl) ⟨_, rfl, hb⟩
        · have hb := hb.2 c4
          refine wp_iload_n 0 dX8_isSign_24 rfl rfl ?_
          refine wp_callS (as := [.int x0]) dX8_isSign_25 cb_X8_isComparison lk_X8_66 st_X8_isComparison rfl (Nat.le_of_ble_eq_true rfl) ⟨by decide, by decide⟩ ⟨Nat.le_refl _, Nat.le_refl _, Nat.le_refl _⟩ hb (fun r0 h6 hb => ?_)
          obtain ⟨r7, rfl, hb⟩ := hb
          refine wp_if_eq (tgt := 35) dX8_isSign_28 (by decide) (fun c8 => ?_) (fun c8 => ?_)
          · have hb := hb.1 c8
            refine wp_iconst (v := 0) dX8_isSign_35 (by decide) ?_
            exact wp_zret rfl dX8_isSign_36 (Or.inl rfl) ⟨_, rfl, hb⟩
          · have hb := hb.2 c8
            refine wp_iconst (v := 1) dX8_isSign_31 (by decide) ?_
            refine wp_goto (tgt := 36) dX8_isSign_32 (by decide) ?_
            exact wp_zret rfl dX8_isSign_36 (Or.inr rfl) ⟨_, rfl, hb⟩
theorem c_X8_isSign {l : Launch} {g : AG} {h : AH} {x0 : Int32}  {Q : Int32 → AH → Prop} (hb : L_X8_isSign_0 l g h x0  Q) : C_X8_isSign l g h x0  Q := ax_met rfl (Nat.le_of_ble_eq_true rfl) hb
def C_X8_goOn (l : Launch) (g : AG) (h : AH) (x0 : Nat)  (Q : AH → Prop) : Prop := Ct l g mX8_goOn 2 40 194 194 h [.ref x0] (ax_QV Q)
def L_X8_goOn_0 (l : Launch) (g : AG) (h : AH) (x0 : Nat)  (Q : AH → Prop) : Prop := Wp l g mX8_goOn 2 40 194 194 194 0 [(0, .ref x0)] [] h (FM g 194 194 (ax_QV Q))
def L_X8_goOn_52 (l : Launch) (g : AG) (h : AH) (x0 : Nat)  (Q : AH → Prop) : Prop := Wp l g mX8_goOn 2 40 194 194 194 52 [(0, .ref x0)] [] h (FM g 194 194 (ax_QV Q))
set_option maxRecDepth 100000 in
set_option maxHeartbeats 4000000 in
theorem s_X8_goOn_0 {l : Launch} {g : AG} {h : AH} {x0 : Nat}  {Q : AH → Prop} (hb : (Is 194 x0 7) ∧ ( ((h.1 x0 1 ≤ h.1 x0 2 → (L_X8_goOn_52 l g h x0  Q)) ∧ (¬ (h.1 x0 1 ≤ h.1 x0 2) → ((Is 194 (h.2.2 x0 0) 20) ∧ ( (vp_in (h.1 x0 2) (ax_s (h.2.2 x0 0)).2) ∧ ( ((h.1 (h.2.2 x0 0) (h.1 x0 2).toNatClampNeg = 32 → (∀ h6 : AH, h6 = ax_setI h x0 2 ((h.1 x0 2) + 1) → ( L_X8_goOn_0 l g h6 x0  Q))) ∧ (¬ (h.1 (h.2.2 x0 0) (h.1 x0 2).toNatClampNeg = 32) → ((Is 194 (h.2.2 x0 0) 20) ∧ ( (vp_in (h.1 x0 2) (ax_s (h.2.2 x0 0)).2) ∧ ( ((¬ h.1 (h.2.2 x0 0) (h.1 x0 2).toNatClampNeg = 10 → (L_X8_goOn_52 l g h x0  Q)) ∧ (h.1 (h.2.2 x0 0) (h.1 x0 2).toNatClampNeg = 10 → (∀ h11 : AH, h11 = ax_setI h x0 2 ((h.1 x0 2) + 1) → ( L_X8_goOn_0 l g h11 x0  Q)))))))))))))))) : L_X8_goOn_0 l g h x0  Q := by
  obtain ⟨i1, hb⟩ := hb
  refine wp_aload_n 0 dX8_goOn_0 rfl rfl ?_
  refine wp_getI dX8_goOn_1 fl_X8_19 i1 ?_
  refine wp_aload_n 0 dX8_goOn_4 rfl rfl ?_
  refine wp_getI dX8_goOn_5 fl_X8_15 i1 ?_
  refine wp_icmp_ge (tgt := 52) dX8_goOn_8 (by decide) (fun c2 => ?_) (fun c2 => ?_)
  · have hb := hb.1 c2
    exact hb
  · have hb := hb.2 c2
    refine wp_aload_n 0 dX8_goOn_11 rfl rfl ?_
    obtain ⟨i3, hb⟩ := hb
    refine wp_getR dX8_goOn_12 fl_X8_9 i1 (i3.ne (by decide)) ?_
    refine wp_aload_n 0 dX8_goOn_15 rfl rfl ?_
    refine wp_getI dX8_goOn_16 fl_X8_19 i1 ?_
    obtain ⟨b4, hb⟩ := hb
    refine wp_iaload dX8_goOn_19 i3 b4 ?_
    refine wp_bipush (v := 32) dX8_goOn_20 (by decide) ?_
    refine wp_icmp_eq (tgt := 39) dX8_goOn_22 (by decide) (fun c5 => ?_) (fun c5 => ?_)
    · have hb := hb.1 c5
      refine wp_aload_n 0 dX8_goOn_39 rfl rfl ?_
      refine wp_dup dX8_goOn_40 rfl ?_
      refine wp_getI dX8_goOn_41 fl_X8_19 i1 ?_
      refine wp_iconst (v := 1) dX8_goOn_44 (by decide) ?_
      refine wp_iadd dX8_goOn_45 ?_
      refine wp_putI dX8_goOn_46 fl_X8_19 (Or.inl rfl) i1 ?_
      refine wp_topH (fun h6 e7 => ?_)
      have hb := hb h6 e7
      refine wp_goto (tgt := 0) dX8_goOn_49 (by decide) ?_
      exact hb
    · have hb := hb.2 c5
      refine wp_aload_n 0 dX8_goOn_25 rfl rfl ?_
      obtain ⟨i8, hb⟩ := hb
      refine wp_getR dX8_goOn_26 fl_X8_9 i1 (i8.ne (by decide)) ?_
      refine wp_aload_n 0 dX8_goOn_29 rfl rfl ?_
      refine wp_getI dX8_goOn_30 fl_X8_19 i1 ?_
      obtain ⟨b9, hb⟩ := hb
      refine wp_iaload dX8_goOn_33 i8 b9 ?_
      refine wp_bipush (v := 10) dX8_goOn_34 (by decide) ?_
      refine wp_icmp_ne (tgt := 52) dX8_goOn_36 (by decide) (fun c10 => ?_) (fun c10 => ?_)
      · have hb := hb.1 c10
        exact hb
      · have hb := hb.2 c10
        refine wp_aload_n 0 dX8_goOn_39 rfl rfl ?_
        refine wp_dup dX8_goOn_40 rfl ?_
        refine wp_getI dX8_goOn_41 fl_X8_19 i1 ?_
        refine wp_iconst (v := 1) dX8_goOn_44 (by decide) ?_
        refine wp_iadd dX8_goOn_45 ?_
        refine wp_putI dX8_goOn_46 fl_X8_19 (Or.inl rfl) i1 ?_
        refine wp_topH (fun h11 e12 => ?_)
        have hb := hb h11 e12
        refine wp_goto (tgt := 0) dX8_goOn_49 (by decide) ?_
        exact hb
set_option maxRecDepth 100000 in
set_option maxHeartbeats 4000000 in
theorem s_X8_goOn_52 {l : Launch} {g : AG} {h : AH} {x0 : Nat}  {Q : AH → Prop} (hb : (Is 194 x0 7) ∧ ( ∀ h14 : AH, h14 = ax_setI h x0 4 (h.1 x0 2) → ( ((h14.1 x0 2 < h14.1 x0 1 → ((Is 194 (h14.2.2 x0 0) 20) ∧ ( (vp_in (h14.1 x0 2) (ax_s (h14.2.2 x0 0)).2) ∧ ( C_X8_isLetter l g h14 (h14.1 (h14.2.2 x0 0) (h14.1 x0 2).toNatClampNeg) (fun r21 h20 => ( ((r21 = 0 → ((Is 194 (h20.2.2 x0 0) 20) ∧ ( (vp_in (h20.1 x0 2) (ax_s (h20.2.2 x0 0)).2) ∧ ( C_X8_isDigit l g h20 (h20.1 (h20.2.2 x0 0) (h20.1 x0 2).toNatClampNeg) (fun r27 h26 => ( ((r27 = 0 → ((Is 194 (h26.2.2 x0 0) 20) ∧ ( (vp_in (h26.1 x0 2) (ax_s (h26.2.2 x0 0)).2) ∧ ( C_X8_isSign l g h26 (h26.1 (h26.2.2 x0 0) (h26.1 x0 2).toNatClampNeg) (fun r33 h32 => ( ((r33 = 0 → (∀ h35 : AH, h35 = ax_setI h32 x0 3 3 → ( ∀ h37 : AH, h37 = ax_setI h35 x0 2 ((h35.1 x0 2) + 1) → ( Q h37)))) ∧ (¬ (r33 = 0) → ((Is 194 (h32.2.2 x0 0) 20) ∧ ( (vp_in (h32.1 x0 2) (ax_s (h32.2.2 x0 0)).2) ∧ ( ∀ h41 : AH, h41 = ax_setI h32 x0 3 (h32.1 (h32.2.2 x0 0) (h32.1 x0 2).toNatClampNeg) → ( ∀ h43 : AH, h43 = ax_setI h41 x0 2 ((h41.1 x0 2) + 1) → ( Q h43))))))))))))) ∧ (¬ (r27 = 0) → (C_X8_goOverNumber l g h26 x0 (fun h46 => ( Q h46))))))))))) ∧ (¬ (r21 = 0) → (C_X8_goOverWord l g h20 x0 (fun h48 => ( Q h48))))))))))) ∧ (¬ (h14.1 x0 2 < h14.1 x0 1) → (∀ h49 : AH, h49 = ax_setI h14 x0 3 0 → ( Q h49))))))) : L_X8_goOn_52 l g h x0  Q := by
  obtain ⟨i13, hb⟩ := hb
  refine wp_aload_n 0 dX8_goOn_52 rfl rfl ?_
  refine wp_aload_n 0 dX8_goOn_53 rfl rfl ?_
  refine wp_getI dX8_goOn_54 fl_X8_19 i13 ?_
  refine wp_putI dX8_goOn_57 fl_X8_25 (Or.inl rfl) i13 ?_
  refine wp_topH (fun h14 e15 => ?_)
  have hb := hb h14 e15
  refine wp_aload_n 0 dX8_goOn_60 rfl rfl ?_
  refine wp_getI dX8_goOn_61 fl_X8_19 i13 ?_
  refine wp_aload_n 0 dX8_goOn_64 rfl rfl ?_
  refine wp_getI dX8_goOn_65 fl_X8_15 i13 ?_
  refine wp_icmp_lt (tgt := 79) dX8_goOn_68 (by decide) (fun c16 => ?_) (fun c16 => ?_)
  · have hb := hb.1 c16
    refine wp_aload_n 0 dX8_goOn_79 rfl rfl ?_
    obtain ⟨i17, hb⟩ := hb
    refine wp_getR dX8_goOn_80 fl_X8_9 i13 (i17.ne (by decide)) ?_
    refine wp_aload_n 0 dX8_goOn_83 rfl rfl ?_
    refine wp_getI dX8_goOn_84 fl_X8_19 i13 ?_
    obtain ⟨b18, hb⟩ := hb
    refine wp_iaload dX8_goOn_87 i17 b18 ?_
    refine wp_callS (as := [.int (h14.1 (h14.2.2 x0 0) (h14.1 x0 2).toNatClampNeg)]) dX8_goOn_88 cb_X8_isLetter lk_X8_41 st_X8_isLetter rfl (Nat.le_of_ble_eq_true rfl) ⟨by decide, by decide⟩ ⟨Nat.le_refl _, Nat.le_refl _, Nat.le_refl _⟩ hb (fun r0 h20 hb => ?_)
    obtain ⟨r21, rfl, hb⟩ := hb
    refine wp_if_eq (tgt := 101) dX8_goOn_91 (by decide) (fun c22 => ?_) (fun c22 => ?_)
    · have hb := hb.1 c22
      refine wp_aload_n 0 dX8_goOn_101 rfl rfl ?_
      obtain ⟨i23, hb⟩ := hb
      refine wp_getR dX8_goOn_102 fl_X8_9 i13 (i23.ne (by decide)) ?_
      refine wp_aload_n 0 dX8_goOn_105 rfl rfl ?_
      refine wp_getI dX8_goOn_106 fl_X8_19 i13 ?_
      obtain ⟨b24, hb⟩ := hb
      refine wp_iaload dX8_goOn_109 i23 b24 ?_
      refine wp_callS (as := [.int (h20.1 (h20.2.2 x0 0) (h20.1 x0 2).toNatClampNeg)]) dX8_goOn_110 cb_X8_isDigit lk_X8_48 st_X8_isDigit rfl (Nat.le_of_ble_eq_true rfl) ⟨by decide, by decide⟩ ⟨Nat.le_refl _, Nat.le_refl _, Nat.le_refl _⟩ hb (fun r0 h26 hb => ?_)
      obtain ⟨r27, rfl, hb⟩ := hb
      refine wp_if_eq (tgt := 123) dX8_goOn_113 (by decide) (fun c28 => ?_) (fun c28 => ?_)
      · have hb := hb.1 c28
        refine wp_aload_n 0 dX8_goOn_123 rfl rfl ?_
        refine wp_aload_n 0 dX8_goOn_124 rfl rfl ?_
        obtain ⟨i29, hb⟩ := hb
        refine wp_getR dX8_goOn_125 fl_X8_9 i13 (i29.ne (by decide)) ?_
        refine wp_aload_n 0 dX8_goOn_128 rfl rfl ?_
        refine wp_getI dX8_goOn_129 fl_X8_19 i13 ?_
        obtain ⟨b30, hb⟩ := hb
        refine wp_iaload dX8_goOn_132 i29 b30 ?_
        refine wp_callS (as := [.int (h26.1 (h26.2.2 x0 0) (h26.1 x0 2).toNatClampNeg)]) dX8_goOn_133 cb_X8_isSign lk_X8_54 st_X8_isSign rfl (Nat.le_of_ble_eq_true rfl) ⟨by decide, by decide⟩ ⟨Nat.le_refl _, Nat.le_refl _, Nat.le_refl _⟩ hb (fun r0 h32 hb => ?_)
        obtain ⟨r33, rfl, hb⟩ := hb
        refine wp_if_eq (tgt := 151) dX8_goOn_136 (by decide) (fun c34 => ?_) (fun c34 => ?_)
        · have hb := hb.1 c34
          refine wp_iconst (v := 3) dX8_goOn_151 (by decide) ?_
          refine wp_putI dX8_goOn_152 fl_X8_22 (Or.inl rfl) i13 ?_
          refine wp_topH (fun h35 e36 => ?_)
          have hb := hb h35 e36
          refine wp_aload_n 0 dX8_goOn_155 rfl rfl ?_
          refine wp_dup dX8_goOn_156 rfl ?_
          refine wp_getI dX8_goOn_157 fl_X8_19 i13 ?_
          refine wp_iconst (v := 1) dX8_goOn_160 (by decide) ?_
          refine wp_iadd dX8_goOn_161 ?_
          refine wp_putI dX8_goOn_162 fl_X8_19 (Or.inl rfl) i13 ?_
          refine wp_topH (fun h37 e38 => ?_)
          have hb := hb h37 e38
          exact wp_vret rfl dX8_goOn_165 ⟨rfl, hb⟩
        · have hb := hb.2 c34
          refine wp_aload_n 0 dX8_goOn_139 rfl rfl ?_
          obtain ⟨i39, hb⟩ := hb
          refine wp_getR dX8_goOn_140 fl_X8_9 i13 (i39.ne (by decide)) ?_
          refine wp_aload_n 0 dX8_goOn_143 rfl rfl ?_
          refine wp_getI dX8_goOn_144 fl_X8_19 i13 ?_
          obtain ⟨b40, hb⟩ := hb
          refine wp_iaload dX8_goOn_147 i39 b40 ?_
          refine wp_goto (tgt := 152) dX8_goOn_148 (by decide) ?_
          refine wp_putI dX8_goOn_152 fl_X8_22 (Or.inl rfl) i13 ?_
          refine wp_topH (fun h41 e42 => ?_)
          have hb := hb h41 e42
          refine wp_aload_n 0 dX8_goOn_155 rfl rfl ?_
          refine wp_dup dX8_goOn_156 rfl ?_
          refine wp_getI dX8_goOn_157 fl_X8_19 i13 ?_
          refine wp_iconst (v := 1) dX8_goOn_160 (by decide) ?_
          refine wp_iadd dX8_goOn_161 ?_
          refine wp_putI dX8_goOn_162 fl_X8_19 (Or.inl rfl) i13 ?_
          refine wp_topH (fun h43 e44 => ?_)
          have hb := hb h43 e44
          exact wp_vret rfl dX8_goOn_165 ⟨rfl, hb⟩
      · have hb := hb.2 c28
        refine wp_aload_n 0 dX8_goOn_116 rfl rfl ?_
        refine wp_callV (as := []) dX8_goOn_117 cb_X8_goOverNumber lk_X8_51 im_X8_goOverNumber se_X8_goOverNumber rfl (Nat.le_of_ble_eq_true rfl) ⟨by decide, by decide⟩ ⟨Nat.le_refl _, Nat.le_refl _, Nat.le_refl _⟩ i13 rfl (by decide) hb (fun r0 h46 hb => ?_)
        obtain ⟨rfl, hb⟩ := hb
        refine wp_goto (tgt := 165) dX8_goOn_120 (by decide) ?_
        exact wp_vret rfl dX8_goOn_165 ⟨rfl, hb⟩
    · have hb := hb.2 c22
      refine wp_aload_n 0 dX8_goOn_94 rfl rfl ?_
      refine wp_callV (as := []) dX8_goOn_95 cb_X8_goOverWord lk_X8_45 im_X8_goOverWord se_X8_goOverWord rfl (Nat.le_of_ble_eq_true rfl) ⟨by decide, by decide⟩ ⟨Nat.le_refl _, Nat.le_refl _, Nat.le_refl _⟩ i13 rfl (by decide) hb (fun r0 h48 hb => ?_)
      obtain ⟨rfl, hb⟩ := hb
      refine wp_goto (tgt := 165) dX8_goOn_98 (by decide) ?_
      exact wp_vret rfl dX8_goOn_165 ⟨rfl, hb⟩
  · have hb := hb.2 c16
    refine wp_aload_n 0 dX8_goOn_71 rfl rfl ?_
    refine wp_iconst (v := 0) dX8_goOn_72 (by decide) ?_
    refine wp_putI dX8_goOn_73 fl_X8_22 (Or.inl rfl) i13 ?_
    refine wp_topH (fun h49 e50 => ?_)
    have hb := hb h49 e50
    refine wp_goto (tgt := 165) dX8_goOn_76 (by decide) ?_
    exact wp_vret rfl dX8_goOn_165 ⟨rfl, hb⟩
theorem c_X8_goOn {l : Launch} {g : AG} {h : AH} {x0 : Nat}  {Q : AH → Prop} (hb : L_X8_goOn_0 l g h x0  Q) : C_X8_goOn l g h x0  Q := ax_met rfl (Nat.le_of_ble_eq_true rfl) hb
