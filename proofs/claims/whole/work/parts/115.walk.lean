def C_X7_reads (l : Launch) (g : AG) (h : AH) (x0 : Nat) (x1 : Nat) (x2 : Int32) (x3 : Nat)  (Q : Int32 → AH → Prop) : Prop := Ct l g mX7_reads 8 202 194 194 h [.ref x0, .ref x1, .int x2, .ref x3] (ax_QI Q)
def L_X7_reads_0 (l : Launch) (g : AG) (h : AH) (x0 : Nat) (x1 : Nat) (x2 : Int32) (x3 : Nat)  (Q : Int32 → AH → Prop) : Prop := Wp l g mX7_reads 8 202 194 194 194 0 [(0, .ref x0), (1, .ref x1), (2, .int x2), (3, .ref x3)] [] h (FM g 194 194 (ax_QI Q))
def L_X7_reads_49 (l : Launch) (g : AG) (h : AH) (x0 : Nat) (x4 : Int32)  (Q : Int32 → AH → Prop) : Prop := Wp l g mX7_reads 8 202 194 194 194 49 [(0, .ref x0), (4, .int x4)] [] h (FM g 194 194 (ax_QI Q))
set_option maxRecDepth 100000 in
set_option maxHeartbeats 4000000 in
theorem s_X7_reads_0 {l : Launch} {g : AG} {h : AH} {x0 : Nat} {x1 : Nat} {x2 : Int32} {x3 : Nat}  {Q : Int32 → AH → Prop} (hb : (Is 194 x0 6) ∧ ( (Is 194 x3 0) ∧ ( ∀ h3 : AH, h3 = ax_setR h x0 1 x3 → ( (Is 194 (h3.2.2 x0 1) 0) ∧ ( C_X0_clear l g h3 (h3.2.2 x0 1) (fun h7 => ( ∀ h8 : AH, h8 = ax_setI h7 x0 2 0 → ( ∀ h10 : AH, h10 = ax_setI h8 x0 3 0 → ( ∀ h12 : AH, h12 = ax_setI h10 x0 4 0 → ( ∀ h14 : AH, h14 = ax_setI h12 x0 7 0 → ( ∀ h16 : AH, h16 = ax_setI h14 x0 11 0 → ( (Is 194 (h16.2.2 x0 0) 7) ∧ ( (Is 194 x1 20) ∧ ( C_X8_start l g h16 (h16.2.2 x0 0) x1 x2 (fun h21 => ( L_X7_reads_49 l g h21 x0 0  Q)))))))))))))))) : L_X7_reads_0 l g h x0 x1 x2 x3  Q := by
  obtain ⟨i1, hb⟩ := hb
  refine wp_aload_n 0 dX7_reads_0 rfl rfl ?_
  obtain ⟨i2, hb⟩ := hb
  refine wp_aload_n 3 dX7_reads_1 rfl rfl ?_
  refine wp_putR dX7_reads_2 fl_X7_64 (Or.inl rfl) i1 (i2.ne (by decide)) ?_
  refine wp_topH (fun h3 e4 => ?_)
  have hb := hb h3 e4
  refine wp_aload_n 0 dX7_reads_5 rfl rfl ?_
  obtain ⟨i5, hb⟩ := hb
  refine wp_getR dX7_reads_6 fl_X7_64 i1 (i5.ne (by decide)) ?_
  refine wp_callVN (as := []) dX7_reads_9 cb_X0_clear lk_X7_68 im_X0_clear se_X0_clear rfl (Nat.le_of_ble_eq_true rfl) ⟨by decide, by decide⟩ ⟨Nat.le_refl _, Nat.le_refl _, Nat.le_refl _⟩ i5 rfl (by decide) hb (fun r0 h7 hb => ?_)
  obtain ⟨rfl, hb⟩ := hb
  refine wp_aload_n 0 dX7_reads_12 rfl rfl ?_
  refine wp_iconst (v := 0) dX7_reads_13 (by decide) ?_
  refine wp_putI dX7_reads_14 fl_X7_18 (Or.inl rfl) i1 ?_
  refine wp_topH (fun h8 e9 => ?_)
  have hb := hb h8 e9
  refine wp_aload_n 0 dX7_reads_17 rfl rfl ?_
  refine wp_iconst (v := 0) dX7_reads_18 (by decide) ?_
  refine wp_putI dX7_reads_19 fl_X7_22 (Or.inl rfl) i1 ?_
  refine wp_topH (fun h10 e11 => ?_)
  have hb := hb h10 e11
  refine wp_aload_n 0 dX7_reads_22 rfl rfl ?_
  refine wp_iconst (v := 0) dX7_reads_23 (by decide) ?_
  refine wp_putI dX7_reads_24 fl_X7_25 (Or.inl rfl) i1 ?_
  refine wp_topH (fun h12 e13 => ?_)
  have hb := hb h12 e13
  refine wp_aload_n 0 dX7_reads_27 rfl rfl ?_
  refine wp_iconst (v := 0) dX7_reads_28 (by decide) ?_
  refine wp_putI dX7_reads_29 fl_X7_36 (Or.inl rfl) i1 ?_
  refine wp_topH (fun h14 e15 => ?_)
  have hb := hb h14 e15
  refine wp_aload_n 0 dX7_reads_32 rfl rfl ?_
  refine wp_iconst (v := 0) dX7_reads_33 (by decide) ?_
  refine wp_putI dX7_reads_34 fl_X7_48 (Or.inl rfl) i1 ?_
  refine wp_topH (fun h16 e17 => ?_)
  have hb := hb h16 e17
  refine wp_aload_n 0 dX7_reads_37 rfl rfl ?_
  obtain ⟨i18, hb⟩ := hb
  refine wp_getR dX7_reads_38 fl_X7_12 i1 (i18.ne (by decide)) ?_
  obtain ⟨i19, hb⟩ := hb
  refine wp_aload_n 1 dX7_reads_41 rfl rfl ?_
  refine wp_iload_n 2 dX7_reads_42 rfl rfl ?_
  refine wp_callVN (as := [.ref x1, .int x2]) dX7_reads_43 cb_X8_start lk_X7_73 im_X8_start se_X8_start rfl (Nat.le_of_ble_eq_true rfl) ⟨by decide, by decide⟩ ⟨Nat.le_refl _, Nat.le_refl _, Nat.le_refl _⟩ i18 rfl (by decide) hb (fun r0 h21 hb => ?_)
  obtain ⟨rfl, hb⟩ := hb
  refine wp_iconst (v := 0) dX7_reads_46 (by decide) ?_
  refine wp_istore (lv2 := [(4, .int 0), (0, .ref x0), (1, .ref x1), (2, .int x2), (3, .ref x3)]) dX7_reads_47 (by decide) rfl ?_
  exact wp_sub [1, 0] rfl hb
set_option maxRecDepth 100000 in
set_option maxHeartbeats 4000000 in
theorem s_X7_reads_49 {l : Launch} {g : AG} {h : AH} {x0 : Nat} {x4 : Int32}  {Q : Int32 → AH → Prop} (hb : ((800 < x4 → (Q 0 h)) ∧ (¬ (800 < x4) → ((Is 194 x0 6) ∧ ( (Is 194 (h.2.2 x0 0) 7) ∧ ( C_X8_goOn l g h (h.2.2 x0 0) (fun h26 => ( (Is 194 (h26.2.2 x0 0) 7) ∧ ( ((¬ h26.1 (h26.2.2 x0 0) 3 = 0 → (C_X7_taken l g h26 x0 (fun r31 h30 => ( ((¬ r31 = 0 → (∀ v33 : Int32, v33 = x4 + (1) → ( L_X7_reads_49 l g h30 x0 v33  Q))) ∧ (r31 = 0 → (Q 0 h30))))))) ∧ (h26.1 (h26.2.2 x0 0) 3 = 0 → (((¬ h26.1 x0 2 = 0 → (C_X7_faulty l g h26 x0 1 (fun r38 h37 => ( (r38 = 0 ∨ r38 = 1) ∧ ( Q r38 h37))))) ∧ (h26.1 x0 2 = 0 → ((Is 194 (h26.2.2 x0 1) 0) ∧ ( ((h26.1 (h26.2.2 x0 1) 0 ≤ 0 → (C_X7_faulty l g h26 x0 1 (fun r44 h43 => ( (r44 = 0 ∨ r44 = 1) ∧ ( Q r44 h43))))) ∧ (¬ (h26.1 (h26.2.2 x0 1) 0 ≤ 0) → (C_X7_findOpened l g h26 x0 (fun r48 h47 => ( (r48 = 0 ∨ r48 = 1) ∧ ( Q r48 h47)))))))))))))))))))))) : L_X7_reads_49 l g h x0 x4  Q := by
  refine wp_iload 1 dX7_reads_49 rfl ?_
  refine wp_sipush (v := 800) dX7_reads_51 (by decide) ?_
  refine wp_icmp_gt (tgt := 119) dX7_reads_54 (by decide) (fun c22 => ?_) (fun c22 => ?_)
  · have hb := hb.1 c22
    refine wp_iconst (v := 0) dX7_reads_119 (by decide) ?_
    exact wp_zret rfl dX7_reads_120 (Or.inl rfl) ⟨_, rfl, hb⟩
  · have hb := hb.2 c22
    obtain ⟨i23, hb⟩ := hb
    refine wp_aload_n 0 dX7_reads_57 rfl rfl ?_
    obtain ⟨i24, hb⟩ := hb
    refine wp_getR dX7_reads_58 fl_X7_12 i23 (i24.ne (by decide)) ?_
    refine wp_callVN (as := []) dX7_reads_61 cb_X8_goOn lk_X7_77 im_X8_goOn se_X8_goOn rfl (Nat.le_of_ble_eq_true rfl) ⟨by decide, by decide⟩ ⟨Nat.le_refl _, Nat.le_refl _, Nat.le_refl _⟩ i24 rfl (by decide) hb (fun r0 h26 hb => ?_)
    obtain ⟨rfl, hb⟩ := hb
    refine wp_aload_n 0 dX7_reads_64 rfl rfl ?_
    obtain ⟨i27, hb⟩ := hb
    refine wp_getR dX7_reads_65 fl_X7_12 i23 (i27.ne (by decide)) ?_
    refine wp_getI dX7_reads_68 fl_X7_80 i27 ?_
    refine wp_if_ne (tgt := 104) dX7_reads_71 (by decide) (fun c28 => ?_) (fun c28 => ?_)
    · have hb := hb.1 c28
      refine wp_aload_n 0 dX7_reads_104 rfl rfl ?_
      refine wp_callV (as := []) dX7_reads_105 cb_X7_taken lk_X7_94 im_X7_taken se_X7_taken rfl (Nat.le_of_ble_eq_true rfl) ⟨by decide, by decide⟩ ⟨Nat.le_refl _, Nat.le_refl _, Nat.le_refl _⟩ i23 rfl (by decide) hb (fun r0 h30 hb => ?_)
      obtain ⟨r31, rfl, hb⟩ := hb
      refine wp_if_ne (tgt := 113) dX7_reads_108 (by decide) (fun c32 => ?_) (fun c32 => ?_)
      · have hb := hb.1 c32
        obtain ⟨v33, e34⟩ : ∃ y : Int32, y = x4 + (1) := ⟨_, rfl⟩
        have hb := hb v33 e34
        refine wp_iinc (v := v33) (lv2 := [(4, .int v33), (0, .ref x0)]) 1 dX7_reads_113 rfl (by rw [e34]; rfl) (by decide) rfl ?_
        refine wp_goto (tgt := 49) dX7_reads_116 (by decide) ?_
        exact wp_sub [1, 0] rfl hb
      · have hb := hb.2 c32
        refine wp_iconst (v := 0) dX7_reads_111 (by decide) ?_
        exact wp_zret rfl dX7_reads_112 (Or.inl rfl) ⟨_, rfl, hb⟩
    · have hb := hb.2 c28
      refine wp_aload_n 0 dX7_reads_74 rfl rfl ?_
      refine wp_getI dX7_reads_75 fl_X7_18 i23 ?_
      refine wp_if_ne (tgt := 98) dX7_reads_78 (by decide) (fun c35 => ?_) (fun c35 => ?_)
      · have hb := hb.1 c35
        refine wp_aload_n 0 dX7_reads_98 rfl rfl ?_
        refine wp_iconst (v := 1) dX7_reads_99 (by decide) ?_
        refine wp_callV (as := [.int 1]) dX7_reads_100 cb_X7_faulty lk_X7_90 im_X7_faulty se_X7_faulty rfl (Nat.le_of_ble_eq_true rfl) ⟨by decide, by decide⟩ ⟨Nat.le_refl _, Nat.le_refl _, Nat.le_refl _⟩ i23 rfl (by decide) hb (fun r0 h37 hb => ?_)
        obtain ⟨r38, rfl, hb⟩ := hb
        obtain ⟨q39, hb⟩ := hb
        exact wp_zret rfl dX7_reads_103 q39 ⟨_, rfl, hb⟩
      · have hb := hb.2 c35
        refine wp_aload_n 0 dX7_reads_81 rfl rfl ?_
        obtain ⟨i40, hb⟩ := hb
        refine wp_getR dX7_reads_82 fl_X7_64 i23 (i40.ne (by decide)) ?_
        refine wp_getI dX7_reads_85 fl_X7_83 i40 ?_
        refine wp_if_le (tgt := 98) dX7_reads_88 (by decide) (fun c41 => ?_) (fun c41 => ?_)
        · have hb := hb.1 c41
          refine wp_aload_n 0 dX7_reads_98 rfl rfl ?_
          refine wp_iconst (v := 1) dX7_reads_99 (by decide) ?_
          refine wp_callV (as := [.int 1]) dX7_reads_100 cb_X7_faulty lk_X7_90 im_X7_faulty se_X7_faulty rfl (Nat.le_of_ble_eq_true rfl) ⟨by decide, by decide⟩ ⟨Nat.le_refl _, Nat.le_refl _, Nat.le_refl _⟩ i23 rfl (by decide) hb (fun r0 h43 hb => ?_)
          obtain ⟨r44, rfl, hb⟩ := hb
          obtain ⟨q45, hb⟩ := hb
          exact wp_zret rfl dX7_reads_103 q45 ⟨_, rfl, hb⟩
        · have hb := hb.2 c41
          refine wp_aload_n 0 dX7_reads_91 rfl rfl ?_
          refine wp_callV (as := []) dX7_reads_92 cb_X7_findOpened lk_X7_86 im_X7_findOpened se_X7_findOpened rfl (Nat.le_of_ble_eq_true rfl) ⟨by decide, by decide⟩ ⟨Nat.le_refl _, Nat.le_refl _, Nat.le_refl _⟩ i23 rfl (by decide) hb (fun r0 h47 hb => ?_)
          obtain ⟨r48, rfl, hb⟩ := hb
          refine wp_goto (tgt := 103) dX7_reads_95 (by decide) ?_
          obtain ⟨q49, hb⟩ := hb
          exact wp_zret rfl dX7_reads_103 q49 ⟨_, rfl, hb⟩
theorem c_X7_reads {l : Launch} {g : AG} {h : AH} {x0 : Nat} {x1 : Nat} {x2 : Int32} {x3 : Nat}  {Q : Int32 → AH → Prop} (hb : L_X7_reads_0 l g h x0 x1 x2 x3  Q) : C_X7_reads l g h x0 x1 x2 x3  Q := ax_met rfl (Nat.le_of_ble_eq_true rfl) hb
def C_X3_packed (l : Launch) (g : AG) (h : AH) (x0 : Int64) (x2 : Int32) (x3 : Int64)  (Q : Int64 → AH → Prop) : Prop := Ct l g mX3_packed 0 0 194 194 h [.long x0, .int x2, .long x3] (ax_QL Q)
def L_X3_packed_0 (l : Launch) (g : AG) (h : AH) (x0 : Int64) (x2 : Int32) (x3 : Int64)  (Q : Int64 → AH → Prop) : Prop := Wp l g mX3_packed 0 0 194 194 194 0 [(0, .long x0), (2, .int x2), (3, .long x3)] [] h (FM g 194 194 (ax_QL Q))
set_option maxRecDepth 100000 in
set_option maxHeartbeats 4000000 in
theorem s_X3_packed_0 {l : Launch} {g : AG} {h : AH} {x0 : Int64} {x2 : Int32} {x3 : Int64}  {Q : Int64 → AH → Prop} (hb : ∀ v1 : Int64, v1 = (((jlshl x0 27) ||| (jlshl x2.toInt64 24)) ||| (x3 &&& 16777215)) → ( Q v1 h)) : L_X3_packed_0 l g h x0 x2 x3  Q := by
  refine wp_lload_n 0 dX3_packed_0 rfl rfl ?_
  refine wp_bipush (v := 27) dX3_packed_1 (by decide) ?_
  refine wp_lshl dX3_packed_3 ?_
  refine wp_iload_n 1 dX3_packed_4 rfl rfl ?_
  refine wp_i2l dX3_packed_5 ?_
  refine wp_bipush (v := 24) dX3_packed_6 (by decide) ?_
  refine wp_lshl dX3_packed_8 ?_
  refine wp_lor dX3_packed_9 ?_
  refine wp_lload_n 2 dX3_packed_10 rfl rfl ?_
  refine wp_ldc2 (v := 16777215) dX3_packed_11 lk_X3_11 ?_
  refine wp_land dX3_packed_14 ?_
  refine wp_lor dX3_packed_15 ?_
  refine wp_topl (fun v1 e2 => ?_)
  have hb := hb v1 e2
  exact wp_lret rfl dX3_packed_16 ⟨_, rfl, hb⟩
theorem c_X3_packed {l : Launch} {g : AG} {h : AH} {x0 : Int64} {x2 : Int32} {x3 : Int64}  {Q : Int64 → AH → Prop} (hb : L_X3_packed_0 l g h x0 x2 x3  Q) : C_X3_packed l g h x0 x2 x3  Q := ax_met rfl (Nat.le_of_ble_eq_true rfl) hb
def C_X3_alone (l : Launch) (g : AG) (h : AH) (x0 : Int32) (x1 : Int64)  (Q : Int64 → AH → Prop) : Prop := Ct l g mX3_alone 1 24 194 194 h [.int x0, .long x1] (ax_QL Q)
def L_X3_alone_0 (l : Launch) (g : AG) (h : AH) (x0 : Int32) (x1 : Int64)  (Q : Int64 → AH → Prop) : Prop := Wp l g mX3_alone 1 24 194 194 194 0 [(0, .int x0), (1, .long x1)] [] h (FM g 194 194 (ax_QL Q))
set_option maxRecDepth 100000 in
set_option maxHeartbeats 4000000 in
theorem s_X3_alone_0 {l : Launch} {g : AG} {h : AH} {x0 : Int32} {x1 : Int64}  {Q : Int64 → AH → Prop} (hb : C_X3_packed l g h (jlshl x0.toInt64 4) 1 x1 (fun r3 h2 => ( Q r3 h2))) : L_X3_alone_0 l g h x0 x1  Q := by
  refine wp_iload_n 0 dX3_alone_0 rfl rfl ?_
  refine wp_i2l dX3_alone_1 ?_
  refine wp_iconst (v := 4) dX3_alone_2 (by decide) ?_
  refine wp_lshl dX3_alone_3 ?_
  refine wp_iconst (v := 1) dX3_alone_4 (by decide) ?_
  refine wp_lload_n 1 dX3_alone_5 rfl rfl ?_
  refine wp_callS (as := [.long (jlshl x0.toInt64 4), .int 1, .long x1]) dX3_alone_6 cb_X3_packed lk_X3_13 st_X3_packed rfl (Nat.le_of_ble_eq_true rfl) ⟨by decide, by decide⟩ ⟨Nat.le_refl _, Nat.le_refl _, Nat.le_refl _⟩ hb (fun r0 h2 hb => ?_)
  obtain ⟨r3, rfl, hb⟩ := hb
  exact wp_lret rfl dX3_alone_9 ⟨_, rfl, hb⟩
theorem c_X3_alone {l : Launch} {g : AG} {h : AH} {x0 : Int32} {x1 : Int64}  {Q : Int64 → AH → Prop} (hb : L_X3_alone_0 l g h x0 x1  Q) : C_X3_alone l g h x0 x1  Q := ax_met rfl (Nat.le_of_ble_eq_true rfl) hb
