def C_X12_can (l : Launch) (g : AG) (h : AH) (x0 : Nat) (x1 : Int32) (x2 : Int32)  (Q : Int32 → AH → Prop) : Prop := Ct l g mX12_can 2 48 194 194 h [.ref x0, .int x1, .int x2] (ax_QI Q)
def L_X12_can_0 (l : Launch) (g : AG) (h : AH) (x0 : Nat) (x1 : Int32) (x2 : Int32)  (Q : Int32 → AH → Prop) : Prop := Wp l g mX12_can 2 48 194 194 194 0 [(0, .ref x0), (1, .int x1), (2, .int x2)] [] h (FM g 194 194 (ax_QI Q))
set_option maxRecDepth 100000 in
set_option maxHeartbeats 4000000 in
theorem s_X12_can_0 {l : Launch} {g : AG} {h : AH} {x0 : Nat} {x1 : Int32} {x2 : Int32}  {Q : Int32 → AH → Prop} (hb : (Is 194 x0 11) ∧ ( ∀ h2 : AH, h2 = ax_setI h x0 0 0 → ( C_X12_isApp l g h2 x0 x1 (fun r6 h5 => ( ((r6 = 0 → (Q (-1) h5)) ∧ (¬ (r6 = 0) → (C_X12_isAct l g h5 x2 (fun r10 h9 => ( ((¬ r10 = 0 → ((Is 194 (h9.2.2 x0 7) 21) ∧ ( (vp_in x1 (ax_s (h9.2.2 x0 7)).2) ∧ ( (Is 194 (h9.2.2 x0 8) 21) ∧ ( (vp_in x1 (ax_s (h9.2.2 x0 8)).2) ∧ ( C_X12_unpack l g h9 x0 (h9.2.1 (h9.2.2 x0 7) x1.toNatClampNeg) (h9.2.1 (h9.2.2 x0 8) x1.toNatClampNeg) (fun h17 => ( (Is 194 (h17.2.2 x0 4) 25) ∧ ( (vp_in x1 (ax_s (h17.2.2 x0 4)).2) ∧ ( (Is 194 (h17.2.2 (h17.2.2 x0 4) x1.toNatClampNeg) 9) ∧ ( C_X12_possible l g h17 x0 (h17.2.2 (h17.2.2 x0 4) x1.toNatClampNeg) (fun r23 h22 => ( Q ((jishr r23 x2) &&& 1) h22))))))))))))) ∧ (r10 = 0 → (Q (-1) h9))))))))))))) : L_X12_can_0 l g h x0 x1 x2  Q := by
  obtain ⟨i1, hb⟩ := hb
  refine wp_aload_n 0 dX12_can_0 rfl rfl ?_
  refine wp_iconst (v := 0) dX12_can_1 (by decide) ?_
  refine wp_putI dX12_can_2 fl_X12_1 (Or.inl rfl) i1 ?_
  refine wp_topH (fun h2 e3 => ?_)
  have hb := hb h2 e3
  refine wp_aload_n 0 dX12_can_5 rfl rfl ?_
  refine wp_iload_n 1 dX12_can_6 rfl rfl ?_
  refine wp_callV (as := [.int x1]) dX12_can_7 cb_X12_isApp lk_X12_340 im_X12_isApp se_X12_isApp rfl (Nat.le_of_ble_eq_true rfl) ⟨by decide, by decide⟩ ⟨Nat.le_refl _, Nat.le_refl _, Nat.le_refl _⟩ i1 rfl (by decide) hb (fun r0 h5 hb => ?_)
  obtain ⟨r6, rfl, hb⟩ := hb
  refine wp_if_eq (tgt := 20) dX12_can_10 (by decide) (fun c7 => ?_) (fun c7 => ?_)
  · have hb := hb.1 c7
    refine wp_iconst (v := (-1)) dX12_can_20 (by decide) ?_
    exact wp_iret rfl dX12_can_21 ⟨_, rfl, hb⟩
  · have hb := hb.2 c7
    refine wp_iload_n 2 dX12_can_13 rfl rfl ?_
    refine wp_callS (as := [.int x2]) dX12_can_14 cb_X12_isAct lk_X12_374 st_X12_isAct rfl (Nat.le_of_ble_eq_true rfl) ⟨by decide, by decide⟩ ⟨Nat.le_refl _, Nat.le_refl _, Nat.le_refl _⟩ hb (fun r0 h9 hb => ?_)
    obtain ⟨r10, rfl, hb⟩ := hb
    refine wp_if_ne (tgt := 22) dX12_can_17 (by decide) (fun c11 => ?_) (fun c11 => ?_)
    · have hb := hb.1 c11
      refine wp_aload_n 0 dX12_can_22 rfl rfl ?_
      refine wp_aload_n 0 dX12_can_23 rfl rfl ?_
      obtain ⟨i12, hb⟩ := hb
      refine wp_getR dX12_can_24 fl_X12_34 i1 (i12.ne (by decide)) ?_
      refine wp_iload_n 1 dX12_can_27 rfl rfl ?_
      obtain ⟨b13, hb⟩ := hb
      refine wp_laload dX12_can_28 i12 b13 ?_
      refine wp_aload_n 0 dX12_can_29 rfl rfl ?_
      obtain ⟨i14, hb⟩ := hb
      refine wp_getR dX12_can_30 fl_X12_38 i1 (i14.ne (by decide)) ?_
      refine wp_iload_n 1 dX12_can_33 rfl rfl ?_
      obtain ⟨b15, hb⟩ := hb
      refine wp_laload dX12_can_34 i14 b15 ?_
      refine wp_callV (as := [.long (h9.2.1 (h9.2.2 x0 7) x1.toNatClampNeg), .long (h9.2.1 (h9.2.2 x0 8) x1.toNatClampNeg)]) dX12_can_35 cb_X12_unpack lk_X12_377 im_X12_unpack se_X12_unpack rfl (Nat.le_of_ble_eq_true rfl) ⟨by decide, by decide⟩ ⟨Nat.le_refl _, Nat.le_refl _, Nat.le_refl _⟩ i1 rfl (by decide) hb (fun r0 h17 hb => ?_)
      obtain ⟨rfl, hb⟩ := hb
      refine wp_aload_n 0 dX12_can_38 rfl rfl ?_
      refine wp_aload_n 0 dX12_can_39 rfl rfl ?_
      obtain ⟨i18, hb⟩ := hb
      refine wp_getR dX12_can_40 fl_X12_21 i1 (i18.ne (by decide)) ?_
      refine wp_iload_n 1 dX12_can_43 rfl rfl ?_
      obtain ⟨b19, hb⟩ := hb
      obtain ⟨i20, hb⟩ := hb
      refine wp_aaload25 dX12_can_44 i18 b19 (i20.ne (by decide)) ?_
      refine wp_callV (as := [.ref (h17.2.2 (h17.2.2 x0 4) x1.toNatClampNeg)]) dX12_can_45 cb_X12_possible lk_X12_381 im_X12_possible se_X12_possible rfl (Nat.le_of_ble_eq_true rfl) ⟨by decide, by decide⟩ ⟨Nat.le_refl _, Nat.le_refl _, Nat.le_refl _⟩ i1 rfl (by decide) hb (fun r0 h22 hb => ?_)
      obtain ⟨r23, rfl, hb⟩ := hb
      refine wp_iload_n 2 dX12_can_48 rfl rfl ?_
      refine wp_ishr dX12_can_49 ?_
      refine wp_iconst (v := 1) dX12_can_50 (by decide) ?_
      refine wp_iand dX12_can_51 ?_
      exact wp_iret rfl dX12_can_52 ⟨_, rfl, hb⟩
    · have hb := hb.2 c11
      refine wp_iconst (v := (-1)) dX12_can_20 (by decide) ?_
      exact wp_iret rfl dX12_can_21 ⟨_, rfl, hb⟩
theorem c_X12_can {l : Launch} {g : AG} {h : AH} {x0 : Nat} {x1 : Int32} {x2 : Int32}  {Q : Int32 → AH → Prop} (hb : L_X12_can_0 l g h x0 x1 x2  Q) : C_X12_can l g h x0 x1 x2  Q := ax_met rfl (Nat.le_of_ble_eq_true rfl) hb
def C_X12_begin (l : Launch) (g : AG) (h : AH) (x0 : Nat) (x1 : Int32)  (Q : Int32 → AH → Prop) : Prop := Ct l g mX12_begin 1 23 194 194 h [.ref x0, .int x1] (ax_QI Q)
def L_X12_begin_0 (l : Launch) (g : AG) (h : AH) (x0 : Nat) (x1 : Int32)  (Q : Int32 → AH → Prop) : Prop := Wp l g mX12_begin 1 23 194 194 194 0 [(0, .ref x0), (1, .int x1)] [] h (FM g 194 194 (ax_QI Q))
def L_X12_begin_19 (l : Launch) (g : AG) (h : AH) (x0 : Nat) (x1 : Int32) (s0 : Int32) (s1 : Nat) (Q : Int32 → AH → Prop) : Prop := Wp l g mX12_begin 1 23 194 194 194 19 [(0, .ref x0), (1, .int x1)] [.int s0, .ref s1] h (FM g 194 194 (ax_QI Q))
set_option maxRecDepth 100000 in
set_option maxHeartbeats 4000000 in
theorem s_X12_begin_0 {l : Launch} {g : AG} {h : AH} {x0 : Nat} {x1 : Int32}  {Q : Int32 → AH → Prop} (hb : (Is 194 x0 11) ∧ ( ∀ h2 : AH, h2 = ax_setI h x0 0 0 → ( C_X12_isApp l g h2 x0 x1 (fun r6 h5 => ( ((r6 = 0 → (L_X12_begin_19 l g h5 x0 x1 1 x0 Q)) ∧ (¬ (r6 = 0) → (L_X12_begin_19 l g h5 x0 x1 0 x0 Q)))))))) : L_X12_begin_0 l g h x0 x1  Q := by
  obtain ⟨i1, hb⟩ := hb
  refine wp_aload_n 0 dX12_begin_0 rfl rfl ?_
  refine wp_iconst (v := 0) dX12_begin_1 (by decide) ?_
  refine wp_putI dX12_begin_2 fl_X12_1 (Or.inl rfl) i1 ?_
  refine wp_topH (fun h2 e3 => ?_)
  have hb := hb h2 e3
  refine wp_aload_n 0 dX12_begin_5 rfl rfl ?_
  refine wp_aload_n 0 dX12_begin_6 rfl rfl ?_
  refine wp_iload_n 1 dX12_begin_7 rfl rfl ?_
  refine wp_callV (as := [.int x1]) dX12_begin_8 cb_X12_isApp lk_X12_340 im_X12_isApp se_X12_isApp rfl (Nat.le_of_ble_eq_true rfl) ⟨by decide, by decide⟩ ⟨Nat.le_refl _, Nat.le_refl _, Nat.le_refl _⟩ i1 rfl (by decide) hb (fun r0 h5 hb => ?_)
  obtain ⟨r6, rfl, hb⟩ := hb
  refine wp_if_eq (tgt := 18) dX12_begin_11 (by decide) (fun c7 => ?_) (fun c7 => ?_)
  · have hb := hb.1 c7
    refine wp_iconst (v := 1) dX12_begin_18 (by decide) ?_
    exact hb
  · have hb := hb.2 c7
    refine wp_iconst (v := 0) dX12_begin_14 (by decide) ?_
    refine wp_goto (tgt := 19) dX12_begin_15 (by decide) ?_
    exact hb
set_option maxRecDepth 100000 in
set_option maxHeartbeats 4000000 in
theorem s_X12_begin_19 {l : Launch} {g : AG} {h : AH} {x0 : Nat} {x1 : Int32} {s0 : Int32} {s1 : Nat} {Q : Int32 → AH → Prop} (hb : (Is 194 s1 11) ∧ ( ∀ h9 : AH, h9 = ax_setI h s1 1 s0 → ( (Is 194 x0 11) ∧ ( ∀ h12 : AH, h12 = ax_setI h9 x0 2 (-1) → ( ((h12.1 x0 1 ≤ 0 → (C_X12_begins l g h12 x0 (fun h16 => ( (Is 194 (h16.2.2 x0 7) 21) ∧ ( C_X12_packed l g h16 x0 (fun r20 h19 => ( (vp_in x1 (ax_s (h16.2.2 x0 7)).2) ∧ ( ∀ h22 : AH, h22 = ax_setL h19 (h16.2.2 x0 7) x1.toNatClampNeg r20 → ( (Is 194 (h22.2.2 x0 8) 21) ∧ ( C_X12_packedVars l g h22 x0 (fun r27 h26 => ( (vp_in x1 (ax_s (h22.2.2 x0 8)).2) ∧ ( ∀ h29 : AH, h29 = ax_setL h26 (h22.2.2 x0 8) x1.toNatClampNeg r27 → ( Q 1 h29)))))))))))))) ∧ (¬ (h12.1 x0 1 ≤ 0) → (Q 0 h12)))))))) : L_X12_begin_19 l g h x0 x1 s0 s1 Q := by
  obtain ⟨i8, hb⟩ := hb
  refine wp_putI dX12_begin_19 fl_X12_7 (Or.inl rfl) i8 ?_
  refine wp_topH (fun h9 e10 => ?_)
  have hb := hb h9 e10
  obtain ⟨i11, hb⟩ := hb
  refine wp_aload_n 0 dX12_begin_22 rfl rfl ?_
  refine wp_iconst (v := (-1)) dX12_begin_23 (by decide) ?_
  refine wp_putI dX12_begin_24 fl_X12_10 (Or.inl rfl) i11 ?_
  refine wp_topH (fun h12 e13 => ?_)
  have hb := hb h12 e13
  refine wp_aload_n 0 dX12_begin_27 rfl rfl ?_
  refine wp_getI dX12_begin_28 fl_X12_7 i11 ?_
  refine wp_if_le (tgt := 36) dX12_begin_31 (by decide) (fun c14 => ?_) (fun c14 => ?_)
  · have hb := hb.1 c14
    refine wp_aload_n 0 dX12_begin_36 rfl rfl ?_
    refine wp_callV (as := []) dX12_begin_37 cb_X12_begins lk_X12_324 im_X12_begins se_X12_begins rfl (Nat.le_of_ble_eq_true rfl) ⟨by decide, by decide⟩ ⟨Nat.le_refl _, Nat.le_refl _, Nat.le_refl _⟩ i11 rfl (by decide) hb (fun r0 h16 hb => ?_)
    obtain ⟨rfl, hb⟩ := hb
    refine wp_aload_n 0 dX12_begin_40 rfl rfl ?_
    obtain ⟨i17, hb⟩ := hb
    refine wp_getR dX12_begin_41 fl_X12_34 i11 (i17.ne (by decide)) ?_
    refine wp_iload_n 1 dX12_begin_44 rfl rfl ?_
    refine wp_aload_n 0 dX12_begin_45 rfl rfl ?_
    refine wp_callV (as := []) dX12_begin_46 cb_X12_packed lk_X12_327 im_X12_packed se_X12_packed rfl (Nat.le_of_ble_eq_true rfl) ⟨by decide, by decide⟩ ⟨Nat.le_refl _, Nat.le_refl _, Nat.le_refl _⟩ i11 rfl (by decide) hb (fun r0 h19 hb => ?_)
    obtain ⟨r20, rfl, hb⟩ := hb
    obtain ⟨b21, hb⟩ := hb
    refine wp_lastore dX12_begin_49 i17 b21 ?_
    refine wp_topH (fun h22 e23 => ?_)
    have hb := hb h22 e23
    refine wp_aload_n 0 dX12_begin_50 rfl rfl ?_
    obtain ⟨i24, hb⟩ := hb
    refine wp_getR dX12_begin_51 fl_X12_38 i11 (i24.ne (by decide)) ?_
    refine wp_iload_n 1 dX12_begin_54 rfl rfl ?_
    refine wp_aload_n 0 dX12_begin_55 rfl rfl ?_
    refine wp_callV (as := []) dX12_begin_56 cb_X12_packedVars lk_X12_331 im_X12_packedVars se_X12_packedVars rfl (Nat.le_of_ble_eq_true rfl) ⟨by decide, by decide⟩ ⟨Nat.le_refl _, Nat.le_refl _, Nat.le_refl _⟩ i11 rfl (by decide) hb (fun r0 h26 hb => ?_)
    obtain ⟨r27, rfl, hb⟩ := hb
    obtain ⟨b28, hb⟩ := hb
    refine wp_lastore dX12_begin_59 i24 b28 ?_
    refine wp_topH (fun h29 e30 => ?_)
    have hb := hb h29 e30
    refine wp_iconst (v := 1) dX12_begin_60 (by decide) ?_
    exact wp_zret rfl dX12_begin_61 (Or.inr rfl) ⟨_, rfl, hb⟩
  · have hb := hb.2 c14
    refine wp_iconst (v := 0) dX12_begin_34 (by decide) ?_
    exact wp_zret rfl dX12_begin_35 (Or.inl rfl) ⟨_, rfl, hb⟩
theorem c_X12_begin {l : Launch} {g : AG} {h : AH} {x0 : Nat} {x1 : Int32}  {Q : Int32 → AH → Prop} (hb : L_X12_begin_0 l g h x0 x1  Q) : C_X12_begin l g h x0 x1  Q := ax_met rfl (Nat.le_of_ble_eq_true rfl) hb
def C_X12_stateOf (l : Launch) (g : AG) (h : AH) (x0 : Nat) (x1 : Int64) (x3 : Int64)  (Q : Int32 → AH → Prop) : Prop := Ct l g mX12_stateOf 0 0 194 194 h [.ref x0, .long x1, .long x3] (ax_QI Q)
def L_X12_stateOf_0 (l : Launch) (g : AG) (h : AH) (x0 : Nat) (x1 : Int64) (x3 : Int64)  (Q : Int32 → AH → Prop) : Prop := Wp l g mX12_stateOf 0 0 194 194 194 0 [(0, .ref x0), (1, .long x1), (3, .long x3)] [] h (FM g 194 194 (ax_QI Q))
def L_X12_stateOf_3 (l : Launch) (g : AG) (h : AH) (x0 : Nat) (x1 : Int64) (x3 : Int64) (x5 : Int32)  (Q : Int32 → AH → Prop) : Prop := Wp l g mX12_stateOf 0 0 194 194 194 3 [(0, .ref x0), (1, .long x1), (3, .long x3), (5, .int x5)] [] h (FM g 194 194 (ax_QI Q))
def L_X12_stateOf_42 (l : Launch) (g : AG) (h : AH) (x0 : Nat) (x5 : Int32)  (Q : Int32 → AH → Prop) : Prop := Wp l g mX12_stateOf 0 0 194 194 194 42 [(0, .ref x0), (5, .int x5)] [] h (FM g 194 194 (ax_QI Q))
set_option maxRecDepth 100000 in
set_option maxHeartbeats 4000000 in
theorem s_X12_stateOf_0 {l : Launch} {g : AG} {h : AH} {x0 : Nat} {x1 : Int64} {x3 : Int64}  {Q : Int32 → AH → Prop} (hb : L_X12_stateOf_3 l g h x0 x1 x3 0  Q) : L_X12_stateOf_0 l g h x0 x1 x3  Q := by
  refine wp_iconst (v := 0) dX12_stateOf_0 (by decide) ?_
  refine wp_istore (lv2 := [(5, .int 0), (0, .ref x0), (1, .long x1), (3, .long x3)]) dX12_stateOf_1 (by decide) rfl ?_
  exact wp_sub [1, 2, 3, 0] rfl hb
set_option maxRecDepth 100000 in
set_option maxHeartbeats 4000000 in
theorem s_X12_stateOf_3 {l : Launch} {g : AG} {h : AH} {x0 : Nat} {x1 : Int64} {x3 : Int64} {x5 : Int32}  {Q : Int32 → AH → Prop} (hb : (Is 194 x0 11) ∧ ( ((h.1 x0 25 ≤ x5 → (L_X12_stateOf_42 l g h x0 x5  Q)) ∧ (¬ (h.1 x0 25 ≤ x5) → ((Is 194 (h.2.2 x0 26) 21) ∧ ( (vp_in x5 (ax_s (h.2.2 x0 26)).2) ∧ ( ((¬ lg_cmp (h.2.1 (h.2.2 x0 26) x5.toNatClampNeg) x1 = 0 → (∀ v6 : Int32, v6 = x5 + (1) → ( L_X12_stateOf_3 l g h x0 x1 x3 v6  Q))) ∧ (lg_cmp (h.2.1 (h.2.2 x0 26) x5.toNatClampNeg) x1 = 0 → ((Is 194 (h.2.2 x0 27) 21) ∧ ( (vp_in x5 (ax_s (h.2.2 x0 27)).2) ∧ ( ((lg_cmp (h.2.1 (h.2.2 x0 27) x5.toNatClampNeg) x3 = 0 → (L_X12_stateOf_42 l g h x0 x5  Q)) ∧ (¬ (lg_cmp (h.2.1 (h.2.2 x0 27) x5.toNatClampNeg) x3 = 0) → (∀ v11 : Int32, v11 = x5 + (1) → ( L_X12_stateOf_3 l g h x0 x1 x3 v11  Q)))))))))))))))) : L_X12_stateOf_3 l g h x0 x1 x3 x5  Q := by
  refine wp_iload 3 dX12_stateOf_3 rfl ?_
  obtain ⟨i1, hb⟩ := hb
  refine wp_aload_n 0 dX12_stateOf_5 rfl rfl ?_
  refine wp_getI dX12_stateOf_6 fl_X12_334 i1 ?_
  refine wp_icmp_ge (tgt := 42) dX12_stateOf_9 (by decide) (fun c2 => ?_) (fun c2 => ?_)
  · have hb := hb.1 c2
    exact wp_sub [0, 3] rfl hb
  · have hb := hb.2 c2
    refine wp_aload_n 0 dX12_stateOf_12 rfl rfl ?_
    obtain ⟨i3, hb⟩ := hb
    refine wp_getR dX12_stateOf_13 fl_X12_65 i1 (i3.ne (by decide)) ?_
    refine wp_iload 3 dX12_stateOf_16 rfl ?_
    obtain ⟨b4, hb⟩ := hb
    refine wp_laload dX12_stateOf_18 i3 b4 ?_
    refine wp_lload_n 1 dX12_stateOf_19 rfl rfl ?_
    refine wp_lcmp dX12_stateOf_20 ?_
    refine wp_if_ne (tgt := 36) dX12_stateOf_21 (by decide) (fun c5 => ?_) (fun c5 => ?_)
    · have hb := hb.1 c5
      obtain ⟨v6, e7⟩ : ∃ y : Int32, y = x5 + (1) := ⟨_, rfl⟩
      have hb := hb v6 e7
      refine wp_iinc (v := v6) (lv2 := [(5, .int v6), (0, .ref x0), (1, .long x1), (3, .long x3)]) 3 dX12_stateOf_36 rfl (by rw [e7]; rfl) (by decide) rfl ?_
      refine wp_goto (tgt := 3) dX12_stateOf_39 (by decide) ?_
      exact wp_sub [1, 2, 3, 0] rfl hb
    · have hb := hb.2 c5
      refine wp_aload_n 0 dX12_stateOf_24 rfl rfl ?_
      obtain ⟨i8, hb⟩ := hb
      refine wp_getR dX12_stateOf_25 fl_X12_68 i1 (i8.ne (by decide)) ?_
      refine wp_iload 3 dX12_stateOf_28 rfl ?_
      obtain ⟨b9, hb⟩ := hb
      refine wp_laload dX12_stateOf_30 i8 b9 ?_
      refine wp_lload_n 2 dX12_stateOf_31 rfl rfl ?_
      refine wp_lcmp dX12_stateOf_32 ?_
      refine wp_if_eq (tgt := 42) dX12_stateOf_33 (by decide) (fun c10 => ?_) (fun c10 => ?_)
      · have hb := hb.1 c10
        exact wp_sub [0, 3] rfl hb
      · have hb := hb.2 c10
        obtain ⟨v11, e12⟩ : ∃ y : Int32, y = x5 + (1) := ⟨_, rfl⟩
        have hb := hb v11 e12
        refine wp_iinc (v := v11) (lv2 := [(5, .int v11), (0, .ref x0), (1, .long x1), (3, .long x3)]) 3 dX12_stateOf_36 rfl (by rw [e12]; rfl) (by decide) rfl ?_
        refine wp_goto (tgt := 3) dX12_stateOf_39 (by decide) ?_
        exact wp_sub [1, 2, 3, 0] rfl hb
set_option maxRecDepth 100000 in
set_option maxHeartbeats 4000000 in
theorem s_X12_stateOf_42 {l : Launch} {g : AG} {h : AH} {x0 : Nat} {x5 : Int32}  {Q : Int32 → AH → Prop} (hb : (Is 194 x0 11) ∧ ( ((h.1 x0 25 ≤ x5 → (Q (-1) h)) ∧ (¬ (h.1 x0 25 ≤ x5) → (Q x5 h))))) : L_X12_stateOf_42 l g h x0 x5  Q := by
  refine wp_iload 1 dX12_stateOf_42 rfl ?_
  obtain ⟨i13, hb⟩ := hb
  refine wp_aload_n 0 dX12_stateOf_44 rfl rfl ?_
  refine wp_getI dX12_stateOf_45 fl_X12_334 i13 ?_
  refine wp_icmp_ge (tgt := 56) dX12_stateOf_48 (by decide) (fun c14 => ?_) (fun c14 => ?_)
  · have hb := hb.1 c14
    refine wp_iconst (v := (-1)) dX12_stateOf_56 (by decide) ?_
    exact wp_iret rfl dX12_stateOf_57 ⟨_, rfl, hb⟩
  · have hb := hb.2 c14
    refine wp_iload 1 dX12_stateOf_51 rfl ?_
    refine wp_goto (tgt := 57) dX12_stateOf_53 (by decide) ?_
    exact wp_iret rfl dX12_stateOf_57 ⟨_, rfl, hb⟩
theorem c_X12_stateOf {l : Launch} {g : AG} {h : AH} {x0 : Nat} {x1 : Int64} {x3 : Int64}  {Q : Int32 → AH → Prop} (hb : L_X12_stateOf_0 l g h x0 x1 x3  Q) : C_X12_stateOf l g h x0 x1 x3  Q := ax_met rfl (Nat.le_of_ble_eq_true rfl) hb
