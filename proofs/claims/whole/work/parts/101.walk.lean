def C_X8_isLetter (l : Launch) (g : AG) (h : AH) (x0 : Int32)  (Q : Int32 → AH → Prop) : Prop := Ct l g mX8_isLetter 0 0 194 194 h [.int x0] (ax_QI Q)
def L_X8_isLetter_0 (l : Launch) (g : AG) (h : AH) (x0 : Int32)  (Q : Int32 → AH → Prop) : Prop := Wp l g mX8_isLetter 0 0 194 194 194 0 [(0, .int x0)] [] h (FM g 194 194 (ax_QI Q))
set_option maxRecDepth 100000 in
set_option maxHeartbeats 4000000 in
theorem s_X8_isLetter_0 {l : Launch} {g : AG} {h : AH} {x0 : Int32}  {Q : Int32 → AH → Prop} (hb : ((x0 < 97 → (Q 0 h)) ∧ (¬ (x0 < 97) → (((122 < x0 → (Q 0 h)) ∧ (¬ (122 < x0) → (Q 1 h))))))) : L_X8_isLetter_0 l g h x0  Q := by
  refine wp_iload_n 0 dX8_isLetter_0 rfl rfl ?_
  refine wp_bipush (v := 97) dX8_isLetter_1 (by decide) ?_
  refine wp_icmp_lt (tgt := 16) dX8_isLetter_3 (by decide) (fun c1 => ?_) (fun c1 => ?_)
  · have hb := hb.1 c1
    refine wp_iconst (v := 0) dX8_isLetter_16 (by decide) ?_
    exact wp_zret rfl dX8_isLetter_17 (Or.inl rfl) ⟨_, rfl, hb⟩
  · have hb := hb.2 c1
    refine wp_iload_n 0 dX8_isLetter_6 rfl rfl ?_
    refine wp_bipush (v := 122) dX8_isLetter_7 (by decide) ?_
    refine wp_icmp_gt (tgt := 16) dX8_isLetter_9 (by decide) (fun c2 => ?_) (fun c2 => ?_)
    · have hb := hb.1 c2
      refine wp_iconst (v := 0) dX8_isLetter_16 (by decide) ?_
      exact wp_zret rfl dX8_isLetter_17 (Or.inl rfl) ⟨_, rfl, hb⟩
    · have hb := hb.2 c2
      refine wp_iconst (v := 1) dX8_isLetter_12 (by decide) ?_
      refine wp_goto (tgt := 17) dX8_isLetter_13 (by decide) ?_
      exact wp_zret rfl dX8_isLetter_17 (Or.inr rfl) ⟨_, rfl, hb⟩
theorem c_X8_isLetter {l : Launch} {g : AG} {h : AH} {x0 : Int32}  {Q : Int32 → AH → Prop} (hb : L_X8_isLetter_0 l g h x0  Q) : C_X8_isLetter l g h x0  Q := ax_met rfl (Nat.le_of_ble_eq_true rfl) hb
def C_X8_goOverWord (l : Launch) (g : AG) (h : AH) (x0 : Nat)  (Q : AH → Prop) : Prop := Ct l g mX8_goOverWord 1 20 194 194 h [.ref x0] (ax_QV Q)
def L_X8_goOverWord_0 (l : Launch) (g : AG) (h : AH) (x0 : Nat)  (Q : AH → Prop) : Prop := Wp l g mX8_goOverWord 1 20 194 194 194 0 [(0, .ref x0)] [] h (FM g 194 194 (ax_QV Q))
def L_X8_goOverWord_5 (l : Launch) (g : AG) (h : AH) (x0 : Nat)  (Q : AH → Prop) : Prop := Wp l g mX8_goOverWord 1 20 194 194 194 5 [(0, .ref x0)] [] h (FM g 194 194 (ax_QV Q))
def L_X8_goOverWord_66 (l : Launch) (g : AG) (h : AH) (x0 : Nat)  (Q : AH → Prop) : Prop := Wp l g mX8_goOverWord 1 20 194 194 194 66 [(0, .ref x0)] [] h (FM g 194 194 (ax_QV Q))
set_option maxRecDepth 100000 in
set_option maxHeartbeats 4000000 in
theorem s_X8_goOverWord_0 {l : Launch} {g : AG} {h : AH} {x0 : Nat}  {Q : AH → Prop} (hb : (Is 194 x0 7) ∧ ( ∀ h2 : AH, h2 = ax_setL h x0 5 0 → ( L_X8_goOverWord_5 l g h2 x0  Q))) : L_X8_goOverWord_0 l g h x0  Q := by
  obtain ⟨i1, hb⟩ := hb
  refine wp_aload_n 0 dX8_goOverWord_0 rfl rfl ?_
  refine wp_lconst (v := 0) dX8_goOverWord_1 (by decide) ?_
  refine wp_putL dX8_goOverWord_2 fl_X8_28 (Or.inl rfl) i1 ?_
  refine wp_topH (fun h2 e3 => ?_)
  have hb := hb h2 e3
  exact hb
set_option maxRecDepth 100000 in
set_option maxHeartbeats 4000000 in
theorem s_X8_goOverWord_5 {l : Launch} {g : AG} {h : AH} {x0 : Nat}  {Q : AH → Prop} (hb : (Is 194 x0 7) ∧ ( ((h.1 x0 1 ≤ h.1 x0 2 → (L_X8_goOverWord_66 l g h x0  Q)) ∧ (¬ (h.1 x0 1 ≤ h.1 x0 2) → ((Is 194 (h.2.2 x0 0) 20) ∧ ( (vp_in (h.1 x0 2) (ax_s (h.2.2 x0 0)).2) ∧ ( C_X8_isLetter l g h (h.1 (h.2.2 x0 0) (h.1 x0 2).toNatClampNeg) (fun r10 h9 => ( ((r10 = 0 → (L_X8_goOverWord_66 l g h9 x0  Q)) ∧ (¬ (r10 = 0) → ((Is 194 (h9.2.2 x0 0) 20) ∧ ( (vp_in (h9.1 x0 2) (ax_s (h9.2.2 x0 0)).2) ∧ ( ∀ v14 : Int64, v14 = ((jlshl (h9.2.1 x0 5) 8) ||| ((h9.1 (h9.2.2 x0 0) (h9.1 x0 2).toNatClampNeg).toInt64)) → ( ∀ h16 : AH, h16 = ax_setL h9 x0 5 v14 → ( ∀ h18 : AH, h18 = ax_setI h16 x0 2 ((h16.1 x0 2) + 1) → ( L_X8_goOverWord_5 l g h18 x0  Q))))))))))))))))) : L_X8_goOverWord_5 l g h x0  Q := by
  obtain ⟨i4, hb⟩ := hb
  refine wp_aload_n 0 dX8_goOverWord_5 rfl rfl ?_
  refine wp_getI dX8_goOverWord_6 fl_X8_19 i4 ?_
  refine wp_aload_n 0 dX8_goOverWord_9 rfl rfl ?_
  refine wp_getI dX8_goOverWord_10 fl_X8_15 i4 ?_
  refine wp_icmp_ge (tgt := 66) dX8_goOverWord_13 (by decide) (fun c5 => ?_) (fun c5 => ?_)
  · have hb := hb.1 c5
    exact hb
  · have hb := hb.2 c5
    refine wp_aload_n 0 dX8_goOverWord_16 rfl rfl ?_
    obtain ⟨i6, hb⟩ := hb
    refine wp_getR dX8_goOverWord_17 fl_X8_9 i4 (i6.ne (by decide)) ?_
    refine wp_aload_n 0 dX8_goOverWord_20 rfl rfl ?_
    refine wp_getI dX8_goOverWord_21 fl_X8_19 i4 ?_
    obtain ⟨b7, hb⟩ := hb
    refine wp_iaload dX8_goOverWord_24 i6 b7 ?_
    refine wp_callS (as := [.int (h.1 (h.2.2 x0 0) (h.1 x0 2).toNatClampNeg)]) dX8_goOverWord_25 cb_X8_isLetter lk_X8_41 st_X8_isLetter rfl (Nat.le_of_ble_eq_true rfl) ⟨by decide, by decide⟩ ⟨Nat.le_refl _, Nat.le_refl _, Nat.le_refl _⟩ hb (fun r0 h9 hb => ?_)
    obtain ⟨r10, rfl, hb⟩ := hb
    refine wp_if_eq (tgt := 66) dX8_goOverWord_28 (by decide) (fun c11 => ?_) (fun c11 => ?_)
    · have hb := hb.1 c11
      exact hb
    · have hb := hb.2 c11
      refine wp_aload_n 0 dX8_goOverWord_31 rfl rfl ?_
      refine wp_aload_n 0 dX8_goOverWord_32 rfl rfl ?_
      refine wp_getL dX8_goOverWord_33 fl_X8_28 i4 ?_
      refine wp_bipush (v := 8) dX8_goOverWord_36 (by decide) ?_
      refine wp_lshl dX8_goOverWord_38 ?_
      refine wp_aload_n 0 dX8_goOverWord_39 rfl rfl ?_
      obtain ⟨i12, hb⟩ := hb
      refine wp_getR dX8_goOverWord_40 fl_X8_9 i4 (i12.ne (by decide)) ?_
      refine wp_aload_n 0 dX8_goOverWord_43 rfl rfl ?_
      refine wp_getI dX8_goOverWord_44 fl_X8_19 i4 ?_
      obtain ⟨b13, hb⟩ := hb
      refine wp_iaload dX8_goOverWord_47 i12 b13 ?_
      refine wp_i2l dX8_goOverWord_48 ?_
      refine wp_lor dX8_goOverWord_49 ?_
      refine wp_topl (fun v14 e15 => ?_)
      have hb := hb v14 e15
      refine wp_putL dX8_goOverWord_50 fl_X8_28 (Or.inl rfl) i4 ?_
      refine wp_topH (fun h16 e17 => ?_)
      have hb := hb h16 e17
      refine wp_aload_n 0 dX8_goOverWord_53 rfl rfl ?_
      refine wp_dup dX8_goOverWord_54 rfl ?_
      refine wp_getI dX8_goOverWord_55 fl_X8_19 i4 ?_
      refine wp_iconst (v := 1) dX8_goOverWord_58 (by decide) ?_
      refine wp_iadd dX8_goOverWord_59 ?_
      refine wp_putI dX8_goOverWord_60 fl_X8_19 (Or.inl rfl) i4 ?_
      refine wp_topH (fun h18 e19 => ?_)
      have hb := hb h18 e19
      refine wp_goto (tgt := 5) dX8_goOverWord_63 (by decide) ?_
      exact hb
set_option maxRecDepth 100000 in
set_option maxHeartbeats 4000000 in
theorem s_X8_goOverWord_66 {l : Launch} {g : AG} {h : AH} {x0 : Nat}  {Q : AH → Prop} (hb : (Is 194 x0 7) ∧ ( (((h.1 x0 2) - (h.1 x0 4) ≤ 8 → (∀ h22 : AH, h22 = ax_setI h x0 3 1 → ( Q h22))) ∧ (¬ ((h.1 x0 2) - (h.1 x0 4) ≤ 8) → (∀ h24 : AH, h24 = ax_setI h x0 3 3 → ( Q h24)))))) : L_X8_goOverWord_66 l g h x0  Q := by
  obtain ⟨i20, hb⟩ := hb
  refine wp_aload_n 0 dX8_goOverWord_66 rfl rfl ?_
  refine wp_aload_n 0 dX8_goOverWord_67 rfl rfl ?_
  refine wp_getI dX8_goOverWord_68 fl_X8_19 i20 ?_
  refine wp_aload_n 0 dX8_goOverWord_71 rfl rfl ?_
  refine wp_getI dX8_goOverWord_72 fl_X8_25 i20 ?_
  refine wp_isub dX8_goOverWord_75 ?_
  refine wp_bipush (v := 8) dX8_goOverWord_76 (by decide) ?_
  refine wp_icmp_le (tgt := 85) dX8_goOverWord_78 (by decide) (fun c21 => ?_) (fun c21 => ?_)
  · have hb := hb.1 c21
    refine wp_iconst (v := 1) dX8_goOverWord_85 (by decide) ?_
    refine wp_putI dX8_goOverWord_86 fl_X8_22 (Or.inl rfl) i20 ?_
    refine wp_topH (fun h22 e23 => ?_)
    have hb := hb h22 e23
    exact wp_vret rfl dX8_goOverWord_89 ⟨rfl, hb⟩
  · have hb := hb.2 c21
    refine wp_iconst (v := 3) dX8_goOverWord_81 (by decide) ?_
    refine wp_goto (tgt := 86) dX8_goOverWord_82 (by decide) ?_
    refine wp_putI dX8_goOverWord_86 fl_X8_22 (Or.inl rfl) i20 ?_
    refine wp_topH (fun h24 e25 => ?_)
    have hb := hb h24 e25
    exact wp_vret rfl dX8_goOverWord_89 ⟨rfl, hb⟩
theorem c_X8_goOverWord {l : Launch} {g : AG} {h : AH} {x0 : Nat}  {Q : AH → Prop} (hb : L_X8_goOverWord_0 l g h x0  Q) : C_X8_goOverWord l g h x0  Q := ax_met rfl (Nat.le_of_ble_eq_true rfl) hb
def C_X8_isDigit (l : Launch) (g : AG) (h : AH) (x0 : Int32)  (Q : Int32 → AH → Prop) : Prop := Ct l g mX8_isDigit 0 0 194 194 h [.int x0] (ax_QI Q)
def L_X8_isDigit_0 (l : Launch) (g : AG) (h : AH) (x0 : Int32)  (Q : Int32 → AH → Prop) : Prop := Wp l g mX8_isDigit 0 0 194 194 194 0 [(0, .int x0)] [] h (FM g 194 194 (ax_QI Q))
set_option maxRecDepth 100000 in
set_option maxHeartbeats 4000000 in
theorem s_X8_isDigit_0 {l : Launch} {g : AG} {h : AH} {x0 : Int32}  {Q : Int32 → AH → Prop} (hb : ((x0 < 48 → (Q 0 h)) ∧ (¬ (x0 < 48) → (((57 < x0 → (Q 0 h)) ∧ (¬ (57 < x0) → (Q 1 h))))))) : L_X8_isDigit_0 l g h x0  Q := by
  refine wp_iload_n 0 dX8_isDigit_0 rfl rfl ?_
  refine wp_bipush (v := 48) dX8_isDigit_1 (by decide) ?_
  refine wp_icmp_lt (tgt := 16) dX8_isDigit_3 (by decide) (fun c1 => ?_) (fun c1 => ?_)
  · have hb := hb.1 c1
    refine wp_iconst (v := 0) dX8_isDigit_16 (by decide) ?_
    exact wp_zret rfl dX8_isDigit_17 (Or.inl rfl) ⟨_, rfl, hb⟩
  · have hb := hb.2 c1
    refine wp_iload_n 0 dX8_isDigit_6 rfl rfl ?_
    refine wp_bipush (v := 57) dX8_isDigit_7 (by decide) ?_
    refine wp_icmp_gt (tgt := 16) dX8_isDigit_9 (by decide) (fun c2 => ?_) (fun c2 => ?_)
    · have hb := hb.1 c2
      refine wp_iconst (v := 0) dX8_isDigit_16 (by decide) ?_
      exact wp_zret rfl dX8_isDigit_17 (Or.inl rfl) ⟨_, rfl, hb⟩
    · have hb := hb.2 c2
      refine wp_iconst (v := 1) dX8_isDigit_12 (by decide) ?_
      refine wp_goto (tgt := 17) dX8_isDigit_13 (by decide) ?_
      exact wp_zret rfl dX8_isDigit_17 (Or.inr rfl) ⟨_, rfl, hb⟩
theorem c_X8_isDigit {l : Launch} {g : AG} {h : AH} {x0 : Int32}  {Q : Int32 → AH → Prop} (hb : L_X8_isDigit_0 l g h x0  Q) : C_X8_isDigit l g h x0  Q := ax_met rfl (Nat.le_of_ble_eq_true rfl) hb
def C_X8_goOverNumber (l : Launch) (g : AG) (h : AH) (x0 : Nat)  (Q : AH → Prop) : Prop := Ct l g mX8_goOverNumber 1 20 194 194 h [.ref x0] (ax_QV Q)
def L_X8_goOverNumber_0 (l : Launch) (g : AG) (h : AH) (x0 : Nat)  (Q : AH → Prop) : Prop := Wp l g mX8_goOverNumber 1 20 194 194 194 0 [(0, .ref x0)] [] h (FM g 194 194 (ax_QV Q))
def L_X8_goOverNumber_5 (l : Launch) (g : AG) (h : AH) (x0 : Nat)  (Q : AH → Prop) : Prop := Wp l g mX8_goOverNumber 1 20 194 194 194 5 [(0, .ref x0)] [] h (FM g 194 194 (ax_QV Q))
def L_X8_goOverNumber_68 (l : Launch) (g : AG) (h : AH) (x0 : Nat)  (Q : AH → Prop) : Prop := Wp l g mX8_goOverNumber 1 20 194 194 194 68 [(0, .ref x0)] [] h (FM g 194 194 (ax_QV Q))
set_option maxRecDepth 100000 in
set_option maxHeartbeats 4000000 in
theorem s_X8_goOverNumber_0 {l : Launch} {g : AG} {h : AH} {x0 : Nat}  {Q : AH → Prop} (hb : (Is 194 x0 7) ∧ ( ∀ h2 : AH, h2 = ax_setI h x0 6 0 → ( L_X8_goOverNumber_5 l g h2 x0  Q))) : L_X8_goOverNumber_0 l g h x0  Q := by
  obtain ⟨i1, hb⟩ := hb
  refine wp_aload_n 0 dX8_goOverNumber_0 rfl rfl ?_
  refine wp_iconst (v := 0) dX8_goOverNumber_1 (by decide) ?_
  refine wp_putI dX8_goOverNumber_2 fl_X8_32 (Or.inl rfl) i1 ?_
  refine wp_topH (fun h2 e3 => ?_)
  have hb := hb h2 e3
  exact hb
set_option maxRecDepth 100000 in
set_option maxHeartbeats 4000000 in
theorem s_X8_goOverNumber_5 {l : Launch} {g : AG} {h : AH} {x0 : Nat}  {Q : AH → Prop} (hb : (Is 194 x0 7) ∧ ( ((h.1 x0 1 ≤ h.1 x0 2 → (L_X8_goOverNumber_68 l g h x0  Q)) ∧ (¬ (h.1 x0 1 ≤ h.1 x0 2) → ((Is 194 (h.2.2 x0 0) 20) ∧ ( (vp_in (h.1 x0 2) (ax_s (h.2.2 x0 0)).2) ∧ ( C_X8_isDigit l g h (h.1 (h.2.2 x0 0) (h.1 x0 2).toNatClampNeg) (fun r10 h9 => ( ((r10 = 0 → (L_X8_goOverNumber_68 l g h9 x0  Q)) ∧ (¬ (r10 = 0) → ((Is 194 (h9.2.2 x0 0) 20) ∧ ( (vp_in (h9.1 x0 2) (ax_s (h9.2.2 x0 0)).2) ∧ ( ∀ v14 : Int32, v14 = (((h9.1 x0 6) * 10) + (h9.1 (h9.2.2 x0 0) (h9.1 x0 2).toNatClampNeg)) → ( ∀ h16 : AH, h16 = ax_setI h9 x0 6 (v14 - 48) → ( ∀ h18 : AH, h18 = ax_setI h16 x0 2 ((h16.1 x0 2) + 1) → ( L_X8_goOverNumber_5 l g h18 x0  Q))))))))))))))))) : L_X8_goOverNumber_5 l g h x0  Q := by
  obtain ⟨i4, hb⟩ := hb
  refine wp_aload_n 0 dX8_goOverNumber_5 rfl rfl ?_
  refine wp_getI dX8_goOverNumber_6 fl_X8_19 i4 ?_
  refine wp_aload_n 0 dX8_goOverNumber_9 rfl rfl ?_
  refine wp_getI dX8_goOverNumber_10 fl_X8_15 i4 ?_
  refine wp_icmp_ge (tgt := 68) dX8_goOverNumber_13 (by decide) (fun c5 => ?_) (fun c5 => ?_)
  · have hb := hb.1 c5
    exact hb
  · have hb := hb.2 c5
    refine wp_aload_n 0 dX8_goOverNumber_16 rfl rfl ?_
    obtain ⟨i6, hb⟩ := hb
    refine wp_getR dX8_goOverNumber_17 fl_X8_9 i4 (i6.ne (by decide)) ?_
    refine wp_aload_n 0 dX8_goOverNumber_20 rfl rfl ?_
    refine wp_getI dX8_goOverNumber_21 fl_X8_19 i4 ?_
    obtain ⟨b7, hb⟩ := hb
    refine wp_iaload dX8_goOverNumber_24 i6 b7 ?_
    refine wp_callS (as := [.int (h.1 (h.2.2 x0 0) (h.1 x0 2).toNatClampNeg)]) dX8_goOverNumber_25 cb_X8_isDigit lk_X8_48 st_X8_isDigit rfl (Nat.le_of_ble_eq_true rfl) ⟨by decide, by decide⟩ ⟨Nat.le_refl _, Nat.le_refl _, Nat.le_refl _⟩ hb (fun r0 h9 hb => ?_)
    obtain ⟨r10, rfl, hb⟩ := hb
    refine wp_if_eq (tgt := 68) dX8_goOverNumber_28 (by decide) (fun c11 => ?_) (fun c11 => ?_)
    · have hb := hb.1 c11
      exact hb
    · have hb := hb.2 c11
      refine wp_aload_n 0 dX8_goOverNumber_31 rfl rfl ?_
      refine wp_aload_n 0 dX8_goOverNumber_32 rfl rfl ?_
      refine wp_getI dX8_goOverNumber_33 fl_X8_32 i4 ?_
      refine wp_bipush (v := 10) dX8_goOverNumber_36 (by decide) ?_
      refine wp_imul dX8_goOverNumber_38 ?_
      refine wp_aload_n 0 dX8_goOverNumber_39 rfl rfl ?_
      obtain ⟨i12, hb⟩ := hb
      refine wp_getR dX8_goOverNumber_40 fl_X8_9 i4 (i12.ne (by decide)) ?_
      refine wp_aload_n 0 dX8_goOverNumber_43 rfl rfl ?_
      refine wp_getI dX8_goOverNumber_44 fl_X8_19 i4 ?_
      obtain ⟨b13, hb⟩ := hb
      refine wp_iaload dX8_goOverNumber_47 i12 b13 ?_
      refine wp_iadd dX8_goOverNumber_48 ?_
      refine wp_topi (fun v14 e15 => ?_)
      have hb := hb v14 e15
      refine wp_bipush (v := 48) dX8_goOverNumber_49 (by decide) ?_
      refine wp_isub dX8_goOverNumber_51 ?_
      refine wp_putI dX8_goOverNumber_52 fl_X8_32 (Or.inl rfl) i4 ?_
      refine wp_topH (fun h16 e17 => ?_)
      have hb := hb h16 e17
      refine wp_aload_n 0 dX8_goOverNumber_55 rfl rfl ?_
      refine wp_dup dX8_goOverNumber_56 rfl ?_
      refine wp_getI dX8_goOverNumber_57 fl_X8_19 i4 ?_
      refine wp_iconst (v := 1) dX8_goOverNumber_60 (by decide) ?_
      refine wp_iadd dX8_goOverNumber_61 ?_
      refine wp_putI dX8_goOverNumber_62 fl_X8_19 (Or.inl rfl) i4 ?_
      refine wp_topH (fun h18 e19 => ?_)
      have hb := hb h18 e19
      refine wp_goto (tgt := 5) dX8_goOverNumber_65 (by decide) ?_
      exact hb
set_option maxRecDepth 100000 in
set_option maxHeartbeats 4000000 in
theorem s_X8_goOverNumber_68 {l : Launch} {g : AG} {h : AH} {x0 : Nat}  {Q : AH → Prop} (hb : (Is 194 x0 7) ∧ ( (((h.1 x0 2) - (h.1 x0 4) ≤ 2 → (∀ h22 : AH, h22 = ax_setI h x0 3 2 → ( Q h22))) ∧ (¬ ((h.1 x0 2) - (h.1 x0 4) ≤ 2) → (∀ h24 : AH, h24 = ax_setI h x0 3 3 → ( Q h24)))))) : L_X8_goOverNumber_68 l g h x0  Q := by
  obtain ⟨i20, hb⟩ := hb
  refine wp_aload_n 0 dX8_goOverNumber_68 rfl rfl ?_
  refine wp_aload_n 0 dX8_goOverNumber_69 rfl rfl ?_
  refine wp_getI dX8_goOverNumber_70 fl_X8_19 i20 ?_
  refine wp_aload_n 0 dX8_goOverNumber_73 rfl rfl ?_
  refine wp_getI dX8_goOverNumber_74 fl_X8_25 i20 ?_
  refine wp_isub dX8_goOverNumber_77 ?_
  refine wp_iconst (v := 2) dX8_goOverNumber_78 (by decide) ?_
  refine wp_icmp_le (tgt := 86) dX8_goOverNumber_79 (by decide) (fun c21 => ?_) (fun c21 => ?_)
  · have hb := hb.1 c21
    refine wp_iconst (v := 2) dX8_goOverNumber_86 (by decide) ?_
    refine wp_putI dX8_goOverNumber_87 fl_X8_22 (Or.inl rfl) i20 ?_
    refine wp_topH (fun h22 e23 => ?_)
    have hb := hb h22 e23
    exact wp_vret rfl dX8_goOverNumber_90 ⟨rfl, hb⟩
  · have hb := hb.2 c21
    refine wp_iconst (v := 3) dX8_goOverNumber_82 (by decide) ?_
    refine wp_goto (tgt := 87) dX8_goOverNumber_83 (by decide) ?_
    refine wp_putI dX8_goOverNumber_87 fl_X8_22 (Or.inl rfl) i20 ?_
    refine wp_topH (fun h24 e25 => ?_)
    have hb := hb h24 e25
    exact wp_vret rfl dX8_goOverNumber_90 ⟨rfl, hb⟩
theorem c_X8_goOverNumber {l : Launch} {g : AG} {h : AH} {x0 : Nat}  {Q : AH → Prop} (hb : L_X8_goOverNumber_0 l g h x0  Q) : C_X8_goOverNumber l g h x0  Q := ax_met rfl (Nat.le_of_ble_eq_true rfl) hb
