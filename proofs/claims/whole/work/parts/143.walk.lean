def C_X2_rowInto (l : Launch) (g : AG) (h : AH) (x0 : Nat) (x1 : Nat)  (Q : Int32 → AH → Prop) : Prop := Ct l g mX2_rowInto 1 24 194 194 h [.ref x0, .ref x1] (ax_QI Q)
def L_X2_rowInto_0 (l : Launch) (g : AG) (h : AH) (x0 : Nat) (x1 : Nat)  (Q : Int32 → AH → Prop) : Prop := Wp l g mX2_rowInto 1 24 194 194 194 0 [(0, .ref x0), (1, .ref x1)] [] h (FM g 194 194 (ax_QI Q))
set_option maxRecDepth 100000 in
set_option maxHeartbeats 4000000 in
theorem s_X2_rowInto_0 {l : Launch} {g : AG} {h : AH} {x0 : Nat} {x1 : Nat}  {Q : Int32 → AH → Prop} (hb : (Is 194 x0 2) ∧ ( ((¬ h.1 x0 4 = (-1) → ((Is 194 (h.2.2 x0 2) 5) ∧ ( (Is 194 x1 20) ∧ ( C_X6_traced l g h (h.2.2 x0 2) (h.1 x0 4) x1 (fun r7 h6 => ( ((h6.1 x0 5 = (-1) → (Q r7 h6)) ∧ (¬ (h6.1 x0 5 = (-1)) → (((r7 < Int32.ofNat (ax_s x1).2 → ((vp_in r7 (ax_s x1).2) ∧ ( ∀ h11 : AH, h11 = ax_setI h6 x1 r7.toNatClampNeg (h6.1 x0 5) → ( Q (r7 + 1) h11)))) ∧ (¬ (r7 < Int32.ofNat (ax_s x1).2) → (Q r7 h6)))))))))))) ∧ (h.1 x0 4 = (-1) → (Q 0 h))))) : L_X2_rowInto_0 l g h x0 x1  Q := by
  obtain ⟨i1, hb⟩ := hb
  refine wp_aload_n 0 dX2_rowInto_0 rfl rfl ?_
  refine wp_getI dX2_rowInto_1 fl_X2_22 i1 ?_
  refine wp_iconst (v := (-1)) dX2_rowInto_4 (by decide) ?_
  refine wp_icmp_ne (tgt := 10) dX2_rowInto_5 (by decide) (fun c2 => ?_) (fun c2 => ?_)
  · have hb := hb.1 c2
    refine wp_aload_n 0 dX2_rowInto_10 rfl rfl ?_
    obtain ⟨i3, hb⟩ := hb
    refine wp_getR dX2_rowInto_11 fl_X2_12 i1 (i3.ne (by decide)) ?_
    refine wp_aload_n 0 dX2_rowInto_14 rfl rfl ?_
    refine wp_getI dX2_rowInto_15 fl_X2_22 i1 ?_
    obtain ⟨i4, hb⟩ := hb
    refine wp_aload_n 1 dX2_rowInto_18 rfl rfl ?_
    refine wp_callVN (as := [.int (h.1 x0 4), .ref x1]) dX2_rowInto_19 cb_X6_traced lk_X2_141 im_X6_traced se_X6_traced rfl (Nat.le_of_ble_eq_true rfl) ⟨by decide, by decide⟩ ⟨Nat.le_refl _, Nat.le_refl _, Nat.le_refl _⟩ i3 rfl (by decide) hb (fun r0 h6 hb => ?_)
    obtain ⟨r7, rfl, hb⟩ := hb
    refine wp_istore_n (lv2 := [(2, .int r7), (0, .ref x0), (1, .ref x1)]) dX2_rowInto_22 rfl (by decide) rfl ?_
    refine wp_aload_n 1 dX2_rowInto_23 rfl rfl ?_
    refine wp_getI dX2_rowInto_24 fl_X2_26 i1 ?_
    refine wp_iconst (v := (-1)) dX2_rowInto_27 (by decide) ?_
    refine wp_icmp_eq (tgt := 37) dX2_rowInto_28 (by decide) (fun c8 => ?_) (fun c8 => ?_)
    · have hb := hb.1 c8
      refine wp_iload_n 0 dX2_rowInto_37 rfl rfl ?_
      exact wp_iret rfl dX2_rowInto_38 ⟨_, rfl, hb⟩
    · have hb := hb.2 c8
      refine wp_iload_n 0 dX2_rowInto_31 rfl rfl ?_
      refine wp_aload_n 2 dX2_rowInto_32 rfl rfl ?_
      refine wp_alen dX2_rowInto_33 i4 (by decide) rfl ?_
      refine wp_icmp_lt (tgt := 39) dX2_rowInto_34 (by decide) (fun c9 => ?_) (fun c9 => ?_)
      · have hb := hb.1 c9
        refine wp_aload_n 2 dX2_rowInto_39 rfl rfl ?_
        refine wp_iload_n 0 dX2_rowInto_40 rfl rfl ?_
        refine wp_aload_n 1 dX2_rowInto_41 rfl rfl ?_
        refine wp_getI dX2_rowInto_42 fl_X2_26 i1 ?_
        obtain ⟨b10, hb⟩ := hb
        refine wp_iastore dX2_rowInto_45 i4 b10 ?_
        refine wp_topH (fun h11 e12 => ?_)
        have hb := hb h11 e12
        refine wp_iload_n 0 dX2_rowInto_46 rfl rfl ?_
        refine wp_iconst (v := 1) dX2_rowInto_47 (by decide) ?_
        refine wp_iadd dX2_rowInto_48 ?_
        exact wp_iret rfl dX2_rowInto_49 ⟨_, rfl, hb⟩
      · have hb := hb.2 c9
        refine wp_iload_n 0 dX2_rowInto_37 rfl rfl ?_
        exact wp_iret rfl dX2_rowInto_38 ⟨_, rfl, hb⟩
  · have hb := hb.2 c2
    refine wp_iconst (v := 0) dX2_rowInto_8 (by decide) ?_
    exact wp_iret rfl dX2_rowInto_9 ⟨_, rfl, hb⟩
theorem c_X2_rowInto {l : Launch} {g : AG} {h : AH} {x0 : Nat} {x1 : Nat}  {Q : Int32 → AH → Prop} (hb : L_X2_rowInto_0 l g h x0 x1  Q) : C_X2_rowInto l g h x0 x1  Q := ax_met rfl (Nat.le_of_ble_eq_true rfl) hb
def C_X9_apart (l : Launch) (g : AG) (h : AH) (x0 : Nat)  (Q : Int32 → AH → Prop) : Prop := Ct l g mX9_apart 6 154 194 194 h [.ref x0] (ax_QI Q)
def L_X9_apart_0 (l : Launch) (g : AG) (h : AH) (x0 : Nat)  (Q : Int32 → AH → Prop) : Prop := Wp l g mX9_apart 6 154 194 194 194 0 [(0, .ref x0)] [] h (FM g 194 194 (ax_QI Q))
set_option maxRecDepth 100000 in
set_option maxHeartbeats 4000000 in
theorem s_X9_apart_0 {l : Launch} {g : AG} {h : AH} {x0 : Nat}  {Q : Int32 → AH → Prop} (hb : (Is 194 x0 8) ∧ ( C_X9_has l g h x0 0 (fun r4 h3 => ( ((r4 = 0 → (C_X9_refused l g h3 x0 1 (fun r8 h7 => ( Q r8 h7)))) ∧ (¬ (r4 = 0) → (C_X9_has l g h3 x0 1 (fun r11 h10 => ( ((¬ r11 = 0 → ((Is 194 (h10.2.2 x0 7) 2) ∧ ( (Is 194 (h10.2.2 x0 2) 24) ∧ ( (vp_in 0 (ax_s (h10.2.2 x0 2)).2) ∧ ( (Is 194 (h10.2.2 (h10.2.2 x0 2) (0 : Int32).toNatClampNeg) 0) ∧ ( (Is 194 (h10.2.2 x0 2) 24) ∧ ( (vp_in 1 (ax_s (h10.2.2 x0 2)).2) ∧ ( (Is 194 (h10.2.2 (h10.2.2 x0 2) (1 : Int32).toNatClampNeg) 0) ∧ ( C_X2_goThrough l g h10 (h10.2.2 x0 7) (h10.2.2 (h10.2.2 x0 2) (0 : Int32).toNatClampNeg) (h10.2.2 (h10.2.2 x0 2) (1 : Int32).toNatClampNeg) (fun h21 => ( (Is 194 (h21.2.2 x0 7) 2) ∧ ( ((h21.1 (h21.2.2 x0 7) 3 = 0 → ((Is 194 (h21.2.2 x0 7) 2) ∧ ( ((¬ h21.1 (h21.2.2 x0 7) 4 = (-1) → ((Is 194 (h21.2.2 x0 7) 2) ∧ ( (Is 194 (h21.2.2 x0 8) 20) ∧ ( C_X2_rowInto l g h21 (h21.2.2 x0 7) (h21.2.2 x0 8) (fun r30 h29 => ( ∀ h31 : AH, h31 = ax_setI h29 x0 9 r30 → ( C_X9_granted l g h31 x0 (h31.1 x0 9) (fun r35 h34 => ( Q r35 h34))))))))) ∧ (h21.1 (h21.2.2 x0 7) 4 = (-1) → (C_X9_granted l g h21 x0 (-2) (fun r38 h37 => ( Q r38 h37)))))))) ∧ (¬ (h21.1 (h21.2.2 x0 7) 3 = 0) → (C_X9_refused l g h21 x0 5 (fun r41 h40 => ( Q r41 h40))))))))))))))))) ∧ (r11 = 0 → (C_X9_refused l g h10 x0 1 (fun r44 h43 => ( Q r44 h43)))))))))))))) : L_X9_apart_0 l g h x0  Q := by
  obtain ⟨i1, hb⟩ := hb
  refine wp_aload_n 0 dX9_apart_0 rfl rfl ?_
  refine wp_iconst (v := 0) dX9_apart_1 (by decide) ?_
  refine wp_callV (as := [.int 0]) dX9_apart_2 cb_X9_has lk_X9_106 im_X9_has se_X9_has rfl (Nat.le_of_ble_eq_true rfl) ⟨by decide, by decide⟩ ⟨Nat.le_refl _, Nat.le_refl _, Nat.le_refl _⟩ i1 rfl (by decide) hb (fun r0 h3 hb => ?_)
  obtain ⟨r4, rfl, hb⟩ := hb
  refine wp_if_eq (tgt := 16) dX9_apart_5 (by decide) (fun c5 => ?_) (fun c5 => ?_)
  · have hb := hb.1 c5
    refine wp_aload_n 0 dX9_apart_16 rfl rfl ?_
    refine wp_iconst (v := 1) dX9_apart_17 (by decide) ?_
    refine wp_callV (as := [.int 1]) dX9_apart_18 cb_X9_refused lk_X9_76 im_X9_refused se_X9_refused rfl (Nat.le_of_ble_eq_true rfl) ⟨by decide, by decide⟩ ⟨Nat.le_refl _, Nat.le_refl _, Nat.le_refl _⟩ i1 rfl (by decide) hb (fun r0 h7 hb => ?_)
    obtain ⟨r8, rfl, hb⟩ := hb
    exact wp_iret rfl dX9_apart_21 ⟨_, rfl, hb⟩
  · have hb := hb.2 c5
    refine wp_aload_n 0 dX9_apart_8 rfl rfl ?_
    refine wp_iconst (v := 1) dX9_apart_9 (by decide) ?_
    refine wp_callV (as := [.int 1]) dX9_apart_10 cb_X9_has lk_X9_106 im_X9_has se_X9_has rfl (Nat.le_of_ble_eq_true rfl) ⟨by decide, by decide⟩ ⟨Nat.le_refl _, Nat.le_refl _, Nat.le_refl _⟩ i1 rfl (by decide) hb (fun r0 h10 hb => ?_)
    obtain ⟨r11, rfl, hb⟩ := hb
    refine wp_if_ne (tgt := 22) dX9_apart_13 (by decide) (fun c12 => ?_) (fun c12 => ?_)
    · have hb := hb.1 c12
      refine wp_aload_n 0 dX9_apart_22 rfl rfl ?_
      obtain ⟨i13, hb⟩ := hb
      refine wp_getR dX9_apart_23 fl_X9_53 i1 (i13.ne (by decide)) ?_
      refine wp_aload_n 0 dX9_apart_26 rfl rfl ?_
      obtain ⟨i14, hb⟩ := hb
      refine wp_getR dX9_apart_27 fl_X9_20 i1 (i14.ne (by decide)) ?_
      refine wp_iconst (v := 0) dX9_apart_30 (by decide) ?_
      obtain ⟨b15, hb⟩ := hb
      obtain ⟨i16, hb⟩ := hb
      refine wp_aaload24 dX9_apart_31 i14 b15 (i16.ne (by decide)) ?_
      refine wp_aload_n 0 dX9_apart_32 rfl rfl ?_
      obtain ⟨i17, hb⟩ := hb
      refine wp_getR dX9_apart_33 fl_X9_20 i1 (i17.ne (by decide)) ?_
      refine wp_iconst (v := 1) dX9_apart_36 (by decide) ?_
      obtain ⟨b18, hb⟩ := hb
      obtain ⟨i19, hb⟩ := hb
      refine wp_aaload24 dX9_apart_37 i17 b18 (i19.ne (by decide)) ?_
      refine wp_callVN (as := [.ref (h10.2.2 (h10.2.2 x0 2) (0 : Int32).toNatClampNeg), .ref (h10.2.2 (h10.2.2 x0 2) (1 : Int32).toNatClampNeg)]) dX9_apart_38 cb_X2_goThrough lk_X9_256 im_X2_goThrough se_X2_goThrough rfl (Nat.le_of_ble_eq_true rfl) ⟨by decide, by decide⟩ ⟨Nat.le_refl _, Nat.le_refl _, Nat.le_refl _⟩ i13 rfl (by decide) hb (fun r0 h21 hb => ?_)
      obtain ⟨rfl, hb⟩ := hb
      refine wp_aload_n 0 dX9_apart_41 rfl rfl ?_
      obtain ⟨i22, hb⟩ := hb
      refine wp_getR dX9_apart_42 fl_X9_53 i1 (i22.ne (by decide)) ?_
      refine wp_getZ dX9_apart_45 fl_X9_259 i22 ?_
      refine wp_if_eq (tgt := 57) dX9_apart_48 (by decide) (fun c23 => ?_) (fun c23 => ?_)
      · have hb := hb.1 c23
        refine wp_aload_n 0 dX9_apart_57 rfl rfl ?_
        obtain ⟨i24, hb⟩ := hb
        refine wp_getR dX9_apart_58 fl_X9_53 i1 (i24.ne (by decide)) ?_
        refine wp_getI dX9_apart_61 fl_X9_263 i24 ?_
        refine wp_iconst (v := (-1)) dX9_apart_64 (by decide) ?_
        refine wp_icmp_ne (tgt := 75) dX9_apart_65 (by decide) (fun c25 => ?_) (fun c25 => ?_)
        · have hb := hb.1 c25
          refine wp_aload_n 0 dX9_apart_75 rfl rfl ?_
          refine wp_aload_n 0 dX9_apart_76 rfl rfl ?_
          obtain ⟨i26, hb⟩ := hb
          refine wp_getR dX9_apart_77 fl_X9_53 i1 (i26.ne (by decide)) ?_
          refine wp_aload_n 0 dX9_apart_80 rfl rfl ?_
          obtain ⟨i27, hb⟩ := hb
          refine wp_getR dX9_apart_81 fl_X9_57 i1 (i27.ne (by decide)) ?_
          refine wp_callVN (as := [.ref (h21.2.2 x0 8)]) dX9_apart_84 cb_X2_rowInto lk_X9_266 im_X2_rowInto se_X2_rowInto rfl (Nat.le_of_ble_eq_true rfl) ⟨by decide, by decide⟩ ⟨Nat.le_refl _, Nat.le_refl _, Nat.le_refl _⟩ i26 rfl (by decide) hb (fun r0 h29 hb => ?_)
          obtain ⟨r30, rfl, hb⟩ := hb
          refine wp_putI dX9_apart_87 fl_X9_60 (Or.inl rfl) i1 ?_
          refine wp_topH (fun h31 e32 => ?_)
          have hb := hb h31 e32
          refine wp_aload_n 0 dX9_apart_90 rfl rfl ?_
          refine wp_aload_n 0 dX9_apart_91 rfl rfl ?_
          refine wp_getI dX9_apart_92 fl_X9_60 i1 ?_
          refine wp_callV (as := [.int (h31.1 x0 9)]) dX9_apart_95 cb_X9_granted lk_X9_97 im_X9_granted se_X9_granted rfl (Nat.le_of_ble_eq_true rfl) ⟨by decide, by decide⟩ ⟨Nat.le_refl _, Nat.le_refl _, Nat.le_refl _⟩ i1 rfl (by decide) hb (fun r0 h34 hb => ?_)
          obtain ⟨r35, rfl, hb⟩ := hb
          exact wp_iret rfl dX9_apart_98 ⟨_, rfl, hb⟩
        · have hb := hb.2 c25
          refine wp_aload_n 0 dX9_apart_68 rfl rfl ?_
          refine wp_bipush (v := (-2)) dX9_apart_69 (by decide) ?_
          refine wp_callV (as := [.int (-2)]) dX9_apart_71 cb_X9_granted lk_X9_97 im_X9_granted se_X9_granted rfl (Nat.le_of_ble_eq_true rfl) ⟨by decide, by decide⟩ ⟨Nat.le_refl _, Nat.le_refl _, Nat.le_refl _⟩ i1 rfl (by decide) hb (fun r0 h37 hb => ?_)
          obtain ⟨r38, rfl, hb⟩ := hb
          exact wp_iret rfl dX9_apart_74 ⟨_, rfl, hb⟩
      · have hb := hb.2 c23
        refine wp_aload_n 0 dX9_apart_51 rfl rfl ?_
        refine wp_iconst (v := 5) dX9_apart_52 (by decide) ?_
        refine wp_callV (as := [.int 5]) dX9_apart_53 cb_X9_refused lk_X9_76 im_X9_refused se_X9_refused rfl (Nat.le_of_ble_eq_true rfl) ⟨by decide, by decide⟩ ⟨Nat.le_refl _, Nat.le_refl _, Nat.le_refl _⟩ i1 rfl (by decide) hb (fun r0 h40 hb => ?_)
        obtain ⟨r41, rfl, hb⟩ := hb
        exact wp_iret rfl dX9_apart_56 ⟨_, rfl, hb⟩
    · have hb := hb.2 c12
      refine wp_aload_n 0 dX9_apart_16 rfl rfl ?_
      refine wp_iconst (v := 1) dX9_apart_17 (by decide) ?_
      refine wp_callV (as := [.int 1]) dX9_apart_18 cb_X9_refused lk_X9_76 im_X9_refused se_X9_refused rfl (Nat.le_of_ble_eq_true rfl) ⟨by decide, by decide⟩ ⟨Nat.le_refl _, Nat.le_refl _, Nat.le_refl _⟩ i1 rfl (by decide) hb (fun r0 h43 hb => ?_)
      obtain ⟨r44, rfl, hb⟩ := hb
      exact wp_iret rfl dX9_apart_21 ⟨_, rfl, hb⟩
theorem c_X9_apart {l : Launch} {g : AG} {h : AH} {x0 : Nat}  {Q : Int32 → AH → Prop} (hb : L_X9_apart_0 l g h x0  Q) : C_X9_apart l g h x0  Q := ax_met rfl (Nat.le_of_ble_eq_true rfl) hb
def C_X9_count (l : Launch) (g : AG) (h : AH) (x0 : Nat) (x1 : Int32)  (Q : Int32 → AH → Prop) : Prop := Ct l g mX9_count 2 40 194 194 h [.ref x0, .int x1] (ax_QI Q)
def L_X9_count_0 (l : Launch) (g : AG) (h : AH) (x0 : Nat) (x1 : Int32)  (Q : Int32 → AH → Prop) : Prop := Wp l g mX9_count 2 40 194 194 194 0 [(0, .ref x0), (1, .int x1)] [] h (FM g 194 194 (ax_QI Q))
set_option maxRecDepth 100000 in
set_option maxHeartbeats 4000000 in
theorem s_X9_count_0 {l : Launch} {g : AG} {h : AH} {x0 : Nat} {x1 : Int32}  {Q : Int32 → AH → Prop} (hb : ((x1 = 0 → ((Is 194 x0 8) ∧ ( (Is 194 (h.2.2 x0 6) 1) ∧ ( C_X1_many l g h (h.2.2 x0 6) (fun r6 h5 => ( Q r6 h5)))))) ∧ (¬ x1 = 0 → (((x1 = 1 → ((Is 194 x0 8) ∧ ( (Is 194 (h.2.2 x0 6) 1) ∧ ( Q (h.1 (h.2.2 x0 6) 0) h)))) ∧ (¬ x1 = 1 → (((x1 = 2 → ((Is 194 x0 8) ∧ ( Q (h.1 x0 9) h))) ∧ (¬ x1 = 2 → (((x1 = 3 → ((Is 194 x0 8) ∧ ( Q (h.1 x0 1) h))) ∧ (¬ x1 = 3 → (((x1 = 4 → ((Is 194 x0 8) ∧ ( (Is 194 (h.2.2 x0 7) 2) ∧ ( (Is 194 (h.2.2 (h.2.2 x0 7) 2) 5) ∧ ( Q (h.1 (h.2.2 (h.2.2 x0 7) 2) 0) h))))) ∧ (¬ x1 = 4 → (Q (-1) h)))))))))))))))) : L_X9_count_0 l g h x0 x1  Q := by
  refine wp_iload_n 1 dX9_count_0 rfl rfl ?_
  refine wp_case 0 (fun c1 => ?_) (fun c1 => ?_)
  · have hb := hb.1 c1
    refine wp_tableIn (v := 0) (tgt := 36) dX9_count_1 c1 (by decide) (by decide) rfl (by decide) ?_
    obtain ⟨i2, hb⟩ := hb
    refine wp_aload_n 0 dX9_count_36 rfl rfl ?_
    obtain ⟨i3, hb⟩ := hb
    refine wp_getR dX9_count_37 fl_X9_44 i2 (i3.ne (by decide)) ?_
    refine wp_callVN (as := []) dX9_count_40 cb_X1_many lk_X9_178 im_X1_many se_X1_many rfl (Nat.le_of_ble_eq_true rfl) ⟨by decide, by decide⟩ ⟨Nat.le_refl _, Nat.le_refl _, Nat.le_refl _⟩ i3 rfl (by decide) hb (fun r0 h5 hb => ?_)
    obtain ⟨r6, rfl, hb⟩ := hb
    exact wp_iret rfl dX9_count_43 ⟨_, rfl, hb⟩
  · have hb := hb.2 c1
    refine wp_case 1 (fun c7 => ?_) (fun c7 => ?_)
    · have hb := hb.1 c7
      refine wp_tableIn (v := 1) (tgt := 44) dX9_count_1 c7 (by decide) (by decide) rfl (by decide) ?_
      obtain ⟨i8, hb⟩ := hb
      refine wp_aload_n 0 dX9_count_44 rfl rfl ?_
      obtain ⟨i9, hb⟩ := hb
      refine wp_getR dX9_count_45 fl_X9_44 i8 (i9.ne (by decide)) ?_
      refine wp_getI dX9_count_48 fl_X9_88 i9 ?_
      exact wp_iret rfl dX9_count_51 ⟨_, rfl, hb⟩
    · have hb := hb.2 c7
      refine wp_case 2 (fun c10 => ?_) (fun c10 => ?_)
      · have hb := hb.1 c10
        refine wp_tableIn (v := 2) (tgt := 52) dX9_count_1 c10 (by decide) (by decide) rfl (by decide) ?_
        obtain ⟨i11, hb⟩ := hb
        refine wp_aload_n 0 dX9_count_52 rfl rfl ?_
        refine wp_getI dX9_count_53 fl_X9_60 i11 ?_
        exact wp_iret rfl dX9_count_56 ⟨_, rfl, hb⟩
      · have hb := hb.2 c10
        refine wp_case 3 (fun c12 => ?_) (fun c12 => ?_)
        · have hb := hb.1 c12
          refine wp_tableIn (v := 3) (tgt := 57) dX9_count_1 c12 (by decide) (by decide) rfl (by decide) ?_
          obtain ⟨i13, hb⟩ := hb
          refine wp_aload_n 0 dX9_count_57 rfl rfl ?_
          refine wp_getI dX9_count_58 fl_X9_13 i13 ?_
          exact wp_iret rfl dX9_count_61 ⟨_, rfl, hb⟩
        · have hb := hb.2 c12
          refine wp_case 4 (fun c14 => ?_) (fun c14 => ?_)
          · have hb := hb.1 c14
            refine wp_tableIn (v := 4) (tgt := 62) dX9_count_1 c14 (by decide) (by decide) rfl (by decide) ?_
            obtain ⟨i15, hb⟩ := hb
            refine wp_aload_n 0 dX9_count_62 rfl rfl ?_
            obtain ⟨i16, hb⟩ := hb
            refine wp_getR dX9_count_63 fl_X9_53 i15 (i16.ne (by decide)) ?_
            obtain ⟨i17, hb⟩ := hb
            refine wp_getR dX9_count_66 fl_X9_270 i16 (i17.ne (by decide)) ?_
            refine wp_getI dX9_count_69 fl_X9_273 i17 ?_
            exact wp_iret rfl dX9_count_72 ⟨_, rfl, hb⟩
          · have hb := hb.2 c14
            refine wp_tableOut (tgt := 73) dX9_count_1 (by have zc1 := lv_neT (k := 0) (a := 0) c1 rfl; have zc7 := lv_neT (k := 1) (a := 1) c7 rfl; have zc10 := lv_neT (k := 2) (a := 2) c10 rfl; have zc12 := lv_neT (k := 3) (a := 3) c12 rfl; have zc14 := lv_neT (k := 4) (a := 4) c14 rfl; omega) (by decide) ?_
            refine wp_iconst (v := (-1)) dX9_count_73 (by decide) ?_
            exact wp_iret rfl dX9_count_74 ⟨_, rfl, hb⟩
theorem c_X9_count {l : Launch} {g : AG} {h : AH} {x0 : Nat} {x1 : Int32}  {Q : Int32 → AH → Prop} (hb : L_X9_count_0 l g h x0 x1  Q) : C_X9_count l g h x0 x1  Q := ax_met rfl (Nat.le_of_ble_eq_true rfl) hb
