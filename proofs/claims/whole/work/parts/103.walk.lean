def C_X0_placeOf (l : Launch) (g : AG) (h : AH) (x0 : Int64) (x2 : Nat) (x3 : Int32) (x4 : Int32)  (Q : Int32 → AH → Prop) : Prop := Ct l g mX0_placeOf 0 0 194 194 h [.long x0, .ref x2, .int x3, .int x4] (ax_QI Q)
def L_X0_placeOf_0 (l : Launch) (g : AG) (h : AH) (x0 : Int64) (x2 : Nat) (x3 : Int32) (x4 : Int32)  (Q : Int32 → AH → Prop) : Prop := Wp l g mX0_placeOf 0 0 194 194 194 0 [(0, .long x0), (2, .ref x2), (3, .int x3), (4, .int x4)] [] h (FM g 194 194 (ax_QI Q))
def L_X0_placeOf_3 (l : Launch) (g : AG) (h : AH) (x0 : Int64) (x2 : Nat) (x4 : Int32) (x5 : Int32)  (Q : Int32 → AH → Prop) : Prop := Wp l g mX0_placeOf 0 0 194 194 194 3 [(0, .long x0), (2, .ref x2), (4, .int x4), (5, .int x5)] [] h (FM g 194 194 (ax_QI Q))
set_option maxRecDepth 100000 in
set_option maxHeartbeats 4000000 in
theorem s_X0_placeOf_0 {l : Launch} {g : AG} {h : AH} {x0 : Int64} {x2 : Nat} {x3 : Int32} {x4 : Int32}  {Q : Int32 → AH → Prop} (hb : L_X0_placeOf_3 l g h x0 x2 x4 x3  Q) : L_X0_placeOf_0 l g h x0 x2 x3 x4  Q := by
  refine wp_iload_n 2 dX0_placeOf_0 rfl rfl ?_
  refine wp_istore (lv2 := [(5, .int x3), (0, .long x0), (2, .ref x2), (3, .int x3), (4, .int x4)]) dX0_placeOf_1 (by decide) rfl ?_
  exact wp_sub [1, 2, 4, 0] rfl hb
set_option maxRecDepth 100000 in
set_option maxHeartbeats 4000000 in
theorem s_X0_placeOf_3 {l : Launch} {g : AG} {h : AH} {x0 : Int64} {x2 : Nat} {x4 : Int32} {x5 : Int32}  {Q : Int32 → AH → Prop} (hb : ((x4 ≤ x5 → (Q (-1) h)) ∧ (¬ (x4 ≤ x5) → ((Is 194 x2 21) ∧ ( (vp_in x5 (ax_s x2).2) ∧ ( ((¬ lg_cmp (h.2.1 x2 x5.toNatClampNeg) x0 = 0 → (∀ v5 : Int32, v5 = x5 + (1) → ( L_X0_placeOf_3 l g h x0 x2 x4 v5  Q))) ∧ (lg_cmp (h.2.1 x2 x5.toNatClampNeg) x0 = 0 → (Q x5 h))))))))) : L_X0_placeOf_3 l g h x0 x2 x4 x5  Q := by
  refine wp_iload 3 dX0_placeOf_3 rfl ?_
  refine wp_iload 2 dX0_placeOf_5 rfl ?_
  refine wp_icmp_ge (tgt := 28) dX0_placeOf_7 (by decide) (fun c1 => ?_) (fun c1 => ?_)
  · have hb := hb.1 c1
    refine wp_iconst (v := (-1)) dX0_placeOf_28 (by decide) ?_
    exact wp_iret rfl dX0_placeOf_29 ⟨_, rfl, hb⟩
  · have hb := hb.2 c1
    obtain ⟨i2, hb⟩ := hb
    refine wp_aload_n 1 dX0_placeOf_10 rfl rfl ?_
    refine wp_iload 3 dX0_placeOf_11 rfl ?_
    obtain ⟨b3, hb⟩ := hb
    refine wp_laload dX0_placeOf_13 i2 b3 ?_
    refine wp_lload_n 0 dX0_placeOf_14 rfl rfl ?_
    refine wp_lcmp dX0_placeOf_15 ?_
    refine wp_if_ne (tgt := 22) dX0_placeOf_16 (by decide) (fun c4 => ?_) (fun c4 => ?_)
    · have hb := hb.1 c4
      obtain ⟨v5, e6⟩ : ∃ y : Int32, y = x5 + (1) := ⟨_, rfl⟩
      have hb := hb v5 e6
      refine wp_iinc (v := v5) (lv2 := [(5, .int v5), (0, .long x0), (2, .ref x2), (4, .int x4)]) 3 dX0_placeOf_22 rfl (by rw [e6]; rfl) (by decide) rfl ?_
      refine wp_goto (tgt := 3) dX0_placeOf_25 (by decide) ?_
      exact wp_sub [1, 2, 3, 0] rfl hb
    · have hb := hb.2 c4
      refine wp_iload 3 dX0_placeOf_19 rfl ?_
      exact wp_iret rfl dX0_placeOf_21 ⟨_, rfl, hb⟩
theorem c_X0_placeOf {l : Launch} {g : AG} {h : AH} {x0 : Int64} {x2 : Nat} {x3 : Int32} {x4 : Int32}  {Q : Int32 → AH → Prop} (hb : L_X0_placeOf_0 l g h x0 x2 x3 x4  Q) : C_X0_placeOf l g h x0 x2 x3 x4  Q := ax_met rfl (Nat.le_of_ble_eq_true rfl) hb
def C_X0_windowNamed (l : Launch) (g : AG) (h : AH) (x0 : Nat) (x1 : Int64)  (Q : Int32 → AH → Prop) : Prop := Ct l g mX0_windowNamed 1 25 194 194 h [.ref x0, .long x1] (ax_QI Q)
def L_X0_windowNamed_0 (l : Launch) (g : AG) (h : AH) (x0 : Nat) (x1 : Int64)  (Q : Int32 → AH → Prop) : Prop := Wp l g mX0_windowNamed 1 25 194 194 194 0 [(0, .ref x0), (1, .long x1)] [] h (FM g 194 194 (ax_QI Q))
set_option maxRecDepth 100000 in
set_option maxHeartbeats 4000000 in
theorem s_X0_windowNamed_0 {l : Launch} {g : AG} {h : AH} {x0 : Nat} {x1 : Int64}  {Q : Int32 → AH → Prop} (hb : (Is 194 x0 0) ∧ ( (Is 194 (h.2.2 x0 8) 21) ∧ ( C_X0_placeOf l g h x1 (h.2.2 x0 8) 0 (h.1 x0 0) (fun r5 h4 => ( Q r5 h4))))) : L_X0_windowNamed_0 l g h x0 x1  Q := by
  refine wp_lload_n 1 dX0_windowNamed_0 rfl rfl ?_
  obtain ⟨i1, hb⟩ := hb
  refine wp_aload_n 0 dX0_windowNamed_1 rfl rfl ?_
  obtain ⟨i2, hb⟩ := hb
  refine wp_getR dX0_windowNamed_2 fl_X0_38 i1 (i2.ne (by decide)) ?_
  refine wp_iconst (v := 0) dX0_windowNamed_5 (by decide) ?_
  refine wp_aload_n 0 dX0_windowNamed_6 rfl rfl ?_
  refine wp_getI dX0_windowNamed_7 fl_X0_9 i1 ?_
  refine wp_callS (as := [.long x1, .ref (h.2.2 x0 8), .int 0, .int (h.1 x0 0)]) dX0_windowNamed_10 cb_X0_placeOf lk_X0_94 st_X0_placeOf rfl (Nat.le_of_ble_eq_true rfl) ⟨by decide, by decide⟩ ⟨Nat.le_refl _, Nat.le_refl _, Nat.le_refl _⟩ hb (fun r0 h4 hb => ?_)
  obtain ⟨r5, rfl, hb⟩ := hb
  exact wp_iret rfl dX0_windowNamed_13 ⟨_, rfl, hb⟩
theorem c_X0_windowNamed {l : Launch} {g : AG} {h : AH} {x0 : Nat} {x1 : Int64}  {Q : Int32 → AH → Prop} (hb : L_X0_windowNamed_0 l g h x0 x1  Q) : C_X0_windowNamed l g h x0 x1  Q := ax_met rfl (Nat.le_of_ble_eq_true rfl) hb
def C_X7_findOpened (l : Launch) (g : AG) (h : AH) (x0 : Nat)  (Q : Int32 → AH → Prop) : Prop := Ct l g mX7_findOpened 2 47 194 194 h [.ref x0] (ax_QI Q)
def L_X7_findOpened_0 (l : Launch) (g : AG) (h : AH) (x0 : Nat)  (Q : Int32 → AH → Prop) : Prop := Wp l g mX7_findOpened 2 47 194 194 194 0 [(0, .ref x0)] [] h (FM g 194 194 (ax_QI Q))
def L_X7_findOpened_2 (l : Launch) (g : AG) (h : AH) (x0 : Nat) (x1 : Int32)  (Q : Int32 → AH → Prop) : Prop := Wp l g mX7_findOpened 2 47 194 194 194 2 [(0, .ref x0), (1, .int x1)] [] h (FM g 194 194 (ax_QI Q))
set_option maxRecDepth 100000 in
set_option maxHeartbeats 4000000 in
theorem s_X7_findOpened_0 {l : Launch} {g : AG} {h : AH} {x0 : Nat}  {Q : Int32 → AH → Prop} (hb : L_X7_findOpened_2 l g h x0 0  Q) : L_X7_findOpened_0 l g h x0  Q := by
  refine wp_iconst (v := 0) dX7_findOpened_0 (by decide) ?_
  refine wp_istore_n (lv2 := [(1, .int 0), (0, .ref x0)]) dX7_findOpened_1 rfl (by decide) rfl ?_
  exact wp_sub [1, 0] rfl hb
set_option maxRecDepth 100000 in
set_option maxHeartbeats 4000000 in
theorem s_X7_findOpened_2 {l : Launch} {g : AG} {h : AH} {x0 : Nat} {x1 : Int32}  {Q : Int32 → AH → Prop} (hb : (Is 194 x0 6) ∧ ( ((h.1 x0 11 ≤ x1 → (Q 1 h)) ∧ (¬ (h.1 x0 11 ≤ x1) → ((Is 194 (h.2.2 x0 1) 0) ∧ ( (Is 194 (h.2.2 x0 13) 21) ∧ ( (vp_in x1 (ax_s (h.2.2 x0 13)).2) ∧ ( C_X0_windowNamed l g h (h.2.2 x0 1) (h.2.1 (h.2.2 x0 13) x1.toNatClampNeg) (fun r8 h7 => ( ((¬ r8 = (-1) → ((Is 194 (h7.2.2 x0 1) 0) ∧ ( (Is 194 (h7.2.2 (h7.2.2 x0 1) 18) 4) ∧ ( (Is 194 (h7.2.2 (h7.2.2 (h7.2.2 x0 1) 18) 2) 20) ∧ ( (Is 194 (h7.2.2 x0 12) 20) ∧ ( (vp_in x1 (ax_s (h7.2.2 x0 12)).2) ∧ ( (vp_in (h7.1 (h7.2.2 x0 12) x1.toNatClampNeg) (ax_s (h7.2.2 (h7.2.2 (h7.2.2 x0 1) 18) 2)).2) ∧ ( ∀ h16 : AH, h16 = ax_setI h7 (h7.2.2 (h7.2.2 (h7.2.2 x0 1) 18) 2) (h7.1 (h7.2.2 x0 12) x1.toNatClampNeg).toNatClampNeg r8 → ( ∀ v18 : Int32, v18 = x1 + (1) → ( L_X7_findOpened_2 l g h16 x0 v18  Q)))))))))) ∧ (r8 = (-1) → (∀ h20 : AH, h20 = ax_setI h7 x0 3 2 → ( (Is 194 (h20.2.2 x0 14) 20) ∧ ( (vp_in x1 (ax_s (h20.2.2 x0 14)).2) ∧ ( ∀ h24 : AH, h24 = ax_setI h20 x0 4 (h20.1 (h20.2.2 x0 14) x1.toNatClampNeg) → ( Q 0 h24))))))))))))))))) : L_X7_findOpened_2 l g h x0 x1  Q := by
  refine wp_iload_n 1 dX7_findOpened_2 rfl rfl ?_
  obtain ⟨i1, hb⟩ := hb
  refine wp_aload_n 0 dX7_findOpened_3 rfl rfl ?_
  refine wp_getI dX7_findOpened_4 fl_X7_48 i1 ?_
  refine wp_icmp_ge (tgt := 70) dX7_findOpened_7 (by decide) (fun c2 => ?_) (fun c2 => ?_)
  · have hb := hb.1 c2
    refine wp_iconst (v := 1) dX7_findOpened_70 (by decide) ?_
    exact wp_zret rfl dX7_findOpened_71 (Or.inr rfl) ⟨_, rfl, hb⟩
  · have hb := hb.2 c2
    refine wp_aload_n 0 dX7_findOpened_10 rfl rfl ?_
    obtain ⟨i3, hb⟩ := hb
    refine wp_getR dX7_findOpened_11 fl_X7_64 i1 (i3.ne (by decide)) ?_
    refine wp_aload_n 0 dX7_findOpened_14 rfl rfl ?_
    obtain ⟨i4, hb⟩ := hb
    refine wp_getR dX7_findOpened_15 fl_X7_57 i1 (i4.ne (by decide)) ?_
    refine wp_iload_n 1 dX7_findOpened_18 rfl rfl ?_
    obtain ⟨b5, hb⟩ := hb
    refine wp_laload dX7_findOpened_19 i4 b5 ?_
    refine wp_callVN (as := [.long (h.2.1 (h.2.2 x0 13) x1.toNatClampNeg)]) dX7_findOpened_20 cb_X0_windowNamed lk_X7_193 im_X0_windowNamed se_X0_windowNamed rfl (Nat.le_of_ble_eq_true rfl) ⟨by decide, by decide⟩ ⟨Nat.le_refl _, Nat.le_refl _, Nat.le_refl _⟩ i3 rfl (by decide) hb (fun r0 h7 hb => ?_)
    obtain ⟨r8, rfl, hb⟩ := hb
    refine wp_istore_n (lv2 := [(2, .int r8), (0, .ref x0), (1, .int x1)]) dX7_findOpened_23 rfl (by decide) rfl ?_
    refine wp_iload_n 0 dX7_findOpened_24 rfl rfl ?_
    refine wp_iconst (v := (-1)) dX7_findOpened_25 (by decide) ?_
    refine wp_icmp_ne (tgt := 46) dX7_findOpened_26 (by decide) (fun c9 => ?_) (fun c9 => ?_)
    · have hb := hb.1 c9
      refine wp_aload_n 1 dX7_findOpened_46 rfl rfl ?_
      obtain ⟨i10, hb⟩ := hb
      refine wp_getR dX7_findOpened_47 fl_X7_64 i1 (i10.ne (by decide)) ?_
      obtain ⟨i11, hb⟩ := hb
      refine wp_getR dX7_findOpened_50 fl_X7_263 i10 (i11.ne (by decide)) ?_
      obtain ⟨i12, hb⟩ := hb
      refine wp_getR dX7_findOpened_53 fl_X7_282 i11 (i12.ne (by decide)) ?_
      refine wp_aload_n 1 dX7_findOpened_56 rfl rfl ?_
      obtain ⟨i13, hb⟩ := hb
      refine wp_getR dX7_findOpened_57 fl_X7_53 i1 (i13.ne (by decide)) ?_
      refine wp_iload_n 2 dX7_findOpened_60 rfl rfl ?_
      obtain ⟨b14, hb⟩ := hb
      refine wp_iaload dX7_findOpened_61 i13 b14 ?_
      refine wp_iload_n 0 dX7_findOpened_62 rfl rfl ?_
      obtain ⟨b15, hb⟩ := hb
      refine wp_iastore dX7_findOpened_63 i12 b15 ?_
      refine wp_topH (fun h16 e17 => ?_)
      have hb := hb h16 e17
      obtain ⟨v18, e19⟩ : ∃ y : Int32, y = x1 + (1) := ⟨_, rfl⟩
      have hb := hb v18 e19
      refine wp_iinc (v := v18) (lv2 := [(1, .int v18), (2, .int r8), (0, .ref x0)]) 2 dX7_findOpened_64 rfl (by rw [e19]; rfl) (by decide) rfl ?_
      refine wp_goto (tgt := 2) dX7_findOpened_67 (by decide) ?_
      exact wp_sub [2, 0] rfl hb
    · have hb := hb.2 c9
      refine wp_aload_n 1 dX7_findOpened_29 rfl rfl ?_
      refine wp_iconst (v := 2) dX7_findOpened_30 (by decide) ?_
      refine wp_putI dX7_findOpened_31 fl_X7_22 (Or.inl rfl) i1 ?_
      refine wp_topH (fun h20 e21 => ?_)
      have hb := hb h20 e21
      refine wp_aload_n 1 dX7_findOpened_34 rfl rfl ?_
      refine wp_aload_n 1 dX7_findOpened_35 rfl rfl ?_
      obtain ⟨i22, hb⟩ := hb
      refine wp_getR dX7_findOpened_36 fl_X7_61 i1 (i22.ne (by decide)) ?_
      refine wp_iload_n 2 dX7_findOpened_39 rfl rfl ?_
      obtain ⟨b23, hb⟩ := hb
      refine wp_iaload dX7_findOpened_40 i22 b23 ?_
      refine wp_putI dX7_findOpened_41 fl_X7_25 (Or.inl rfl) i1 ?_
      refine wp_topH (fun h24 e25 => ?_)
      have hb := hb h24 e25
      refine wp_iconst (v := 0) dX7_findOpened_44 (by decide) ?_
      exact wp_zret rfl dX7_findOpened_45 (Or.inl rfl) ⟨_, rfl, hb⟩
theorem c_X7_findOpened {l : Launch} {g : AG} {h : AH} {x0 : Nat}  {Q : Int32 → AH → Prop} (hb : L_X7_findOpened_0 l g h x0  Q) : C_X7_findOpened l g h x0  Q := ax_met rfl (Nat.le_of_ble_eq_true rfl) hb
def C_X7_faulty (l : Launch) (g : AG) (h : AH) (x0 : Nat) (x1 : Int32)  (Q : Int32 → AH → Prop) : Prop := Ct l g mX7_faulty 0 0 194 194 h [.ref x0, .int x1] (ax_QI Q)
def L_X7_faulty_0 (l : Launch) (g : AG) (h : AH) (x0 : Nat) (x1 : Int32)  (Q : Int32 → AH → Prop) : Prop := Wp l g mX7_faulty 0 0 194 194 194 0 [(0, .ref x0), (1, .int x1)] [] h (FM g 194 194 (ax_QI Q))
set_option maxRecDepth 100000 in
set_option maxHeartbeats 4000000 in
theorem s_X7_faulty_0 {l : Launch} {g : AG} {h : AH} {x0 : Nat} {x1 : Int32}  {Q : Int32 → AH → Prop} (hb : (Is 194 x0 6) ∧ ( ∀ h2 : AH, h2 = ax_setI h x0 3 x1 → ( (Is 194 (h2.2.2 x0 0) 7) ∧ ( ∀ h5 : AH, h5 = ax_setI h2 x0 4 (h2.1 (h2.2.2 x0 0) 4) → ( Q 0 h5))))) : L_X7_faulty_0 l g h x0 x1  Q := by
  obtain ⟨i1, hb⟩ := hb
  refine wp_aload_n 0 dX7_faulty_0 rfl rfl ?_
  refine wp_iload_n 1 dX7_faulty_1 rfl rfl ?_
  refine wp_putI dX7_faulty_2 fl_X7_22 (Or.inl rfl) i1 ?_
  refine wp_topH (fun h2 e3 => ?_)
  have hb := hb h2 e3
  refine wp_aload_n 0 dX7_faulty_5 rfl rfl ?_
  refine wp_aload_n 0 dX7_faulty_6 rfl rfl ?_
  obtain ⟨i4, hb⟩ := hb
  refine wp_getR dX7_faulty_7 fl_X7_12 i1 (i4.ne (by decide)) ?_
  refine wp_getI dX7_faulty_10 fl_X7_97 i4 ?_
  refine wp_putI dX7_faulty_13 fl_X7_25 (Or.inl rfl) i1 ?_
  refine wp_topH (fun h5 e6 => ?_)
  have hb := hb h5 e6
  refine wp_iconst (v := 0) dX7_faulty_16 (by decide) ?_
  exact wp_zret rfl dX7_faulty_17 (Or.inl rfl) ⟨_, rfl, hb⟩
theorem c_X7_faulty {l : Launch} {g : AG} {h : AH} {x0 : Nat} {x1 : Int32}  {Q : Int32 → AH → Prop} (hb : L_X7_faulty_0 l g h x0 x1  Q) : C_X7_faulty l g h x0 x1  Q := ax_met rfl (Nat.le_of_ble_eq_true rfl) hb
