def C_X9_holdsAt (l : Launch) (g : AG) (h : AH) (x0 : Nat) (x1 : Int32) (x2 : Int32)  (Q : Int32 → AH → Prop) : Prop := Ct l g mX9_holdsAt 2 45 194 194 h [.ref x0, .int x1, .int x2] (ax_QI Q)
def L_X9_holdsAt_0 (l : Launch) (g : AG) (h : AH) (x0 : Nat) (x1 : Int32) (x2 : Int32)  (Q : Int32 → AH → Prop) : Prop := Wp l g mX9_holdsAt 2 45 194 194 194 0 [(0, .ref x0), (1, .int x1), (2, .int x2)] [] h (FM g 194 194 (ax_QI Q))
set_option maxRecDepth 100000 in
set_option maxHeartbeats 4000000 in
theorem s_X9_holdsAt_0 {l : Launch} {g : AG} {h : AH} {x0 : Nat} {x1 : Int32} {x2 : Int32}  {Q : Int32 → AH → Prop} (hb : (Is 194 x0 8) ∧ ( (Is 194 (h.2.2 x0 6) 1) ∧ ( C_X1_stands l g h (h.2.2 x0 6) (fun r5 h4 => ( ((¬ r5 = 0 → (((x1 < 0 → (C_X9_refused l g h4 x0 1 (fun r10 h9 => ( Q r10 h9)))) ∧ (¬ (x1 < 0) → ((Is 194 (h4.2.2 x0 6) 1) ∧ ( (Is 194 (h4.2.2 (h4.2.2 x0 6) 1) 0) ∧ ( ((x1 < h4.1 (h4.2.2 (h4.2.2 x0 6) 1) 2 → ((Is 194 (h4.2.2 x0 6) 1) ∧ ( C_X1_firstOfValue l g h4 (h4.2.2 x0 6) x1 x2 (fun r17 h16 => ( C_X9_granted l g h16 x0 r17 (fun r20 h19 => ( Q r20 h19))))))) ∧ (¬ (x1 < h4.1 (h4.2.2 (h4.2.2 x0 6) 1) 2) → (C_X9_refused l g h4 x0 1 (fun r23 h22 => ( Q r23 h22)))))))))))) ∧ (r5 = 0 → (C_X9_refused l g h4 x0 6 (fun r26 h25 => ( Q r26 h25)))))))))) : L_X9_holdsAt_0 l g h x0 x1 x2  Q := by
  obtain ⟨i1, hb⟩ := hb
  refine wp_aload_n 0 dX9_holdsAt_0 rfl rfl ?_
  obtain ⟨i2, hb⟩ := hb
  refine wp_getR dX9_holdsAt_1 fl_X9_44 i1 (i2.ne (by decide)) ?_
  refine wp_callVN (as := []) dX9_holdsAt_4 cb_X1_stands lk_X9_202 im_X1_stands se_X1_stands rfl (Nat.le_of_ble_eq_true rfl) ⟨by decide, by decide⟩ ⟨Nat.le_refl _, Nat.le_refl _, Nat.le_refl _⟩ i2 rfl (by decide) hb (fun r0 h4 hb => ?_)
  obtain ⟨r5, rfl, hb⟩ := hb
  refine wp_if_ne (tgt := 17) dX9_holdsAt_7 (by decide) (fun c6 => ?_) (fun c6 => ?_)
  · have hb := hb.1 c6
    refine wp_iload_n 1 dX9_holdsAt_17 rfl rfl ?_
    refine wp_if_lt (tgt := 35) dX9_holdsAt_18 (by decide) (fun c7 => ?_) (fun c7 => ?_)
    · have hb := hb.1 c7
      refine wp_aload_n 0 dX9_holdsAt_35 rfl rfl ?_
      refine wp_iconst (v := 1) dX9_holdsAt_36 (by decide) ?_
      refine wp_callV (as := [.int 1]) dX9_holdsAt_37 cb_X9_refused lk_X9_76 im_X9_refused se_X9_refused rfl (Nat.le_of_ble_eq_true rfl) ⟨by decide, by decide⟩ ⟨Nat.le_refl _, Nat.le_refl _, Nat.le_refl _⟩ i1 rfl (by decide) hb (fun r0 h9 hb => ?_)
      obtain ⟨r10, rfl, hb⟩ := hb
      exact wp_iret rfl dX9_holdsAt_40 ⟨_, rfl, hb⟩
    · have hb := hb.2 c7
      refine wp_iload_n 1 dX9_holdsAt_21 rfl rfl ?_
      refine wp_aload_n 0 dX9_holdsAt_22 rfl rfl ?_
      obtain ⟨i11, hb⟩ := hb
      refine wp_getR dX9_holdsAt_23 fl_X9_44 i1 (i11.ne (by decide)) ?_
      obtain ⟨i12, hb⟩ := hb
      refine wp_getR dX9_holdsAt_26 fl_X9_213 i11 (i12.ne (by decide)) ?_
      refine wp_getI dX9_holdsAt_29 fl_X9_113 i12 ?_
      refine wp_icmp_lt (tgt := 41) dX9_holdsAt_32 (by decide) (fun c13 => ?_) (fun c13 => ?_)
      · have hb := hb.1 c13
        refine wp_aload_n 0 dX9_holdsAt_41 rfl rfl ?_
        refine wp_aload_n 0 dX9_holdsAt_42 rfl rfl ?_
        obtain ⟨i14, hb⟩ := hb
        refine wp_getR dX9_holdsAt_43 fl_X9_44 i1 (i14.ne (by decide)) ?_
        refine wp_iload_n 1 dX9_holdsAt_46 rfl rfl ?_
        refine wp_iload_n 2 dX9_holdsAt_47 rfl rfl ?_
        refine wp_callVN (as := [.int x1, .int x2]) dX9_holdsAt_48 cb_X1_firstOfValue lk_X9_222 im_X1_firstOfValue se_X1_firstOfValue rfl (Nat.le_of_ble_eq_true rfl) ⟨by decide, by decide⟩ ⟨Nat.le_refl _, Nat.le_refl _, Nat.le_refl _⟩ i14 rfl (by decide) hb (fun r0 h16 hb => ?_)
        obtain ⟨r17, rfl, hb⟩ := hb
        refine wp_callV (as := [.int r17]) dX9_holdsAt_51 cb_X9_granted lk_X9_97 im_X9_granted se_X9_granted rfl (Nat.le_of_ble_eq_true rfl) ⟨by decide, by decide⟩ ⟨Nat.le_refl _, Nat.le_refl _, Nat.le_refl _⟩ i1 rfl (by decide) hb (fun r0 h19 hb => ?_)
        obtain ⟨r20, rfl, hb⟩ := hb
        exact wp_iret rfl dX9_holdsAt_54 ⟨_, rfl, hb⟩
      · have hb := hb.2 c13
        refine wp_aload_n 0 dX9_holdsAt_35 rfl rfl ?_
        refine wp_iconst (v := 1) dX9_holdsAt_36 (by decide) ?_
        refine wp_callV (as := [.int 1]) dX9_holdsAt_37 cb_X9_refused lk_X9_76 im_X9_refused se_X9_refused rfl (Nat.le_of_ble_eq_true rfl) ⟨by decide, by decide⟩ ⟨Nat.le_refl _, Nat.le_refl _, Nat.le_refl _⟩ i1 rfl (by decide) hb (fun r0 h22 hb => ?_)
        obtain ⟨r23, rfl, hb⟩ := hb
        exact wp_iret rfl dX9_holdsAt_40 ⟨_, rfl, hb⟩
  · have hb := hb.2 c6
    refine wp_aload_n 0 dX9_holdsAt_10 rfl rfl ?_
    refine wp_bipush (v := 6) dX9_holdsAt_11 (by decide) ?_
    refine wp_callV (as := [.int 6]) dX9_holdsAt_13 cb_X9_refused lk_X9_76 im_X9_refused se_X9_refused rfl (Nat.le_of_ble_eq_true rfl) ⟨by decide, by decide⟩ ⟨Nat.le_refl _, Nat.le_refl _, Nat.le_refl _⟩ i1 rfl (by decide) hb (fun r0 h25 hb => ?_)
    obtain ⟨r26, rfl, hb⟩ := hb
    exact wp_iret rfl dX9_holdsAt_16 ⟨_, rfl, hb⟩
theorem c_X9_holdsAt {l : Launch} {g : AG} {h : AH} {x0 : Nat} {x1 : Int32} {x2 : Int32}  {Q : Int32 → AH → Prop} (hb : L_X9_holdsAt_0 l g h x0 x1 x2  Q) : C_X9_holdsAt l g h x0 x1 x2  Q := ax_met rfl (Nat.le_of_ble_eq_true rfl) hb
def C_X1_leadsToMarked (l : Launch) (g : AG) (h : AH) (x0 : Nat) (x1 : Int32)  (Q : Int32 → AH → Prop) : Prop := Ct l g mX1_leadsToMarked 0 0 194 194 h [.ref x0, .int x1] (ax_QI Q)
def L_X1_leadsToMarked_0 (l : Launch) (g : AG) (h : AH) (x0 : Nat) (x1 : Int32)  (Q : Int32 → AH → Prop) : Prop := Wp l g mX1_leadsToMarked 0 0 194 194 194 0 [(0, .ref x0), (1, .int x1)] [] h (FM g 194 194 (ax_QI Q))
def L_X1_leadsToMarked_2 (l : Launch) (g : AG) (h : AH) (x0 : Nat) (x1 : Int32) (x2 : Int32)  (Q : Int32 → AH → Prop) : Prop := Wp l g mX1_leadsToMarked 0 0 194 194 194 2 [(0, .ref x0), (1, .int x1), (2, .int x2)] [] h (FM g 194 194 (ax_QI Q))
set_option maxRecDepth 100000 in
set_option maxHeartbeats 4000000 in
theorem s_X1_leadsToMarked_0 {l : Launch} {g : AG} {h : AH} {x0 : Nat} {x1 : Int32}  {Q : Int32 → AH → Prop} (hb : L_X1_leadsToMarked_2 l g h x0 x1 0  Q) : L_X1_leadsToMarked_0 l g h x0 x1  Q := by
  refine wp_iconst (v := 0) dX1_leadsToMarked_0 (by decide) ?_
  refine wp_istore_n (lv2 := [(2, .int 0), (0, .ref x0), (1, .int x1)]) dX1_leadsToMarked_1 rfl (by decide) rfl ?_
  exact wp_sub [1, 2, 0] rfl hb
set_option maxRecDepth 100000 in
set_option maxHeartbeats 4000000 in
theorem s_X1_leadsToMarked_2 {l : Launch} {g : AG} {h : AH} {x0 : Nat} {x1 : Int32} {x2 : Int32}  {Q : Int32 → AH → Prop} (hb : ((26 ≤ x2 → (Q 0 h)) ∧ (¬ (26 ≤ x2) → ((Is 194 x0 1) ∧ ( (Is 194 (h.2.2 x0 3) 20) ∧ ( (vp_in ((x1 * 27) + x2) (ax_s (h.2.2 x0 3)).2) ∧ ( ∀ v5 : Int32, v5 = (h.1 (h.2.2 x0 3) ((x1 * 27) + x2).toNatClampNeg) → ( ((v5 < 0 → (∀ v8 : Int32, v8 = x2 + (1) → ( L_X1_leadsToMarked_2 l g h x0 x1 v8  Q))) ∧ (¬ (v5 < 0) → ((Is 194 (h.2.2 x0 8) 23) ∧ ( (vp_in v5 (ax_s (h.2.2 x0 8)).2) ∧ ( ((h.1 (h.2.2 x0 8) v5.toNatClampNeg = 0 → (∀ v13 : Int32, v13 = x2 + (1) → ( L_X1_leadsToMarked_2 l g h x0 x1 v13  Q))) ∧ (¬ (h.1 (h.2.2 x0 8) v5.toNatClampNeg = 0) → (Q 1 h)))))))))))))))) : L_X1_leadsToMarked_2 l g h x0 x1 x2  Q := by
  refine wp_iload_n 2 dX1_leadsToMarked_2 rfl rfl ?_
  refine wp_bipush (v := 26) dX1_leadsToMarked_3 (by decide) ?_
  refine wp_icmp_ge (tgt := 41) dX1_leadsToMarked_5 (by decide) (fun c1 => ?_) (fun c1 => ?_)
  · have hb := hb.1 c1
    refine wp_iconst (v := 0) dX1_leadsToMarked_41 (by decide) ?_
    exact wp_zret rfl dX1_leadsToMarked_42 (Or.inl rfl) ⟨_, rfl, hb⟩
  · have hb := hb.2 c1
    obtain ⟨i2, hb⟩ := hb
    refine wp_aload_n 0 dX1_leadsToMarked_8 rfl rfl ?_
    obtain ⟨i3, hb⟩ := hb
    refine wp_getR dX1_leadsToMarked_9 fl_X1_22 i2 (i3.ne (by decide)) ?_
    refine wp_iload_n 1 dX1_leadsToMarked_12 rfl rfl ?_
    refine wp_bipush (v := 27) dX1_leadsToMarked_13 (by decide) ?_
    refine wp_imul dX1_leadsToMarked_15 ?_
    refine wp_iload_n 2 dX1_leadsToMarked_16 rfl rfl ?_
    refine wp_iadd dX1_leadsToMarked_17 ?_
    obtain ⟨b4, hb⟩ := hb
    refine wp_iaload dX1_leadsToMarked_18 i3 b4 ?_
    refine wp_topi (fun v5 e6 => ?_)
    have hb := hb v5 e6
    refine wp_istore_n (lv2 := [(3, .int v5), (0, .ref x0), (1, .int x1), (2, .int x2)]) dX1_leadsToMarked_19 rfl (by decide) rfl ?_
    refine wp_iload_n 0 dX1_leadsToMarked_20 rfl rfl ?_
    refine wp_if_lt (tgt := 35) dX1_leadsToMarked_21 (by decide) (fun c7 => ?_) (fun c7 => ?_)
    · have hb := hb.1 c7
      obtain ⟨v8, e9⟩ : ∃ y : Int32, y = x2 + (1) := ⟨_, rfl⟩
      have hb := hb v8 e9
      refine wp_iinc (v := v8) (lv2 := [(2, .int v8), (3, .int v5), (0, .ref x0), (1, .int x1)]) 3 dX1_leadsToMarked_35 rfl (by rw [e9]; rfl) (by decide) rfl ?_
      refine wp_goto (tgt := 2) dX1_leadsToMarked_38 (by decide) ?_
      exact wp_sub [2, 3, 0] rfl hb
    · have hb := hb.2 c7
      refine wp_aload_n 1 dX1_leadsToMarked_24 rfl rfl ?_
      obtain ⟨i10, hb⟩ := hb
      refine wp_getR dX1_leadsToMarked_25 fl_X1_38 i2 (i10.ne (by decide)) ?_
      refine wp_iload_n 0 dX1_leadsToMarked_28 rfl rfl ?_
      obtain ⟨b11, hb⟩ := hb
      refine wp_zaload dX1_leadsToMarked_29 i10 b11 ?_
      refine wp_if_eq (tgt := 35) dX1_leadsToMarked_30 (by decide) (fun c12 => ?_) (fun c12 => ?_)
      · have hb := hb.1 c12
        obtain ⟨v13, e14⟩ : ∃ y : Int32, y = x2 + (1) := ⟨_, rfl⟩
        have hb := hb v13 e14
        refine wp_iinc (v := v13) (lv2 := [(2, .int v13), (3, .int v5), (0, .ref x0), (1, .int x1)]) 3 dX1_leadsToMarked_35 rfl (by rw [e14]; rfl) (by decide) rfl ?_
        refine wp_goto (tgt := 2) dX1_leadsToMarked_38 (by decide) ?_
        exact wp_sub [2, 3, 0] rfl hb
      · have hb := hb.2 c12
        refine wp_iconst (v := 1) dX1_leadsToMarked_33 (by decide) ?_
        exact wp_zret rfl dX1_leadsToMarked_34 (Or.inr rfl) ⟨_, rfl, hb⟩
theorem c_X1_leadsToMarked {l : Launch} {g : AG} {h : AH} {x0 : Nat} {x1 : Int32}  {Q : Int32 → AH → Prop} (hb : L_X1_leadsToMarked_0 l g h x0 x1  Q) : C_X1_leadsToMarked l g h x0 x1  Q := ax_met rfl (Nat.le_of_ble_eq_true rfl) hb
def C_X1_markMore (l : Launch) (g : AG) (h : AH) (x0 : Nat)  (Q : Int32 → AH → Prop) : Prop := Ct l g mX1_markMore 1 23 194 194 h [.ref x0] (ax_QI Q)
def L_X1_markMore_0 (l : Launch) (g : AG) (h : AH) (x0 : Nat)  (Q : Int32 → AH → Prop) : Prop := Wp l g mX1_markMore 1 23 194 194 194 0 [(0, .ref x0)] [] h (FM g 194 194 (ax_QI Q))
def L_X1_markMore_12 (l : Launch) (g : AG) (h : AH) (x0 : Nat) (x1 : Int32) (x2 : Int32)  (Q : Int32 → AH → Prop) : Prop := Wp l g mX1_markMore 1 23 194 194 194 12 [(0, .ref x0), (1, .int x1), (2, .int x2)] [] h (FM g 194 194 (ax_QI Q))
set_option maxRecDepth 100000 in
set_option maxHeartbeats 4000000 in
theorem s_X1_markMore_0 {l : Launch} {g : AG} {h : AH} {x0 : Nat}  {Q : Int32 → AH → Prop} (hb : (Is 194 x0 1) ∧ ( (Is 194 (h.2.2 x0 2) 5) ∧ ( ∀ v3 : Int32, v3 = ((h.1 (h.2.2 x0 2) 0) - 1) → ( L_X1_markMore_12 l g h x0 0 v3  Q)))) : L_X1_markMore_0 l g h x0  Q := by
  refine wp_iconst (v := 0) dX1_markMore_0 (by decide) ?_
  refine wp_istore_n (lv2 := [(1, .int 0), (0, .ref x0)]) dX1_markMore_1 rfl (by decide) rfl ?_
  obtain ⟨i1, hb⟩ := hb
  refine wp_aload_n 1 dX1_markMore_2 rfl rfl ?_
  obtain ⟨i2, hb⟩ := hb
  refine wp_getR dX1_markMore_3 fl_X1_18 i1 (i2.ne (by decide)) ?_
  refine wp_getI dX1_markMore_6 fl_X1_50 i2 ?_
  refine wp_iconst (v := 1) dX1_markMore_9 (by decide) ?_
  refine wp_isub dX1_markMore_10 ?_
  refine wp_topi (fun v3 e4 => ?_)
  have hb := hb v3 e4
  refine wp_istore_n (lv2 := [(2, .int v3), (1, .int 0), (0, .ref x0)]) dX1_markMore_11 rfl (by decide) rfl ?_
  exact wp_sub [2, 1, 0] rfl hb
set_option maxRecDepth 100000 in
set_option maxHeartbeats 4000000 in
theorem s_X1_markMore_12 {l : Launch} {g : AG} {h : AH} {x0 : Nat} {x1 : Int32} {x2 : Int32}  {Q : Int32 → AH → Prop} (hb : ((x2 < 0 → ((x1 = 0 ∨ x1 = 1) ∧ ( Q x1 h))) ∧ (¬ (x2 < 0) → ((Is 194 x0 1) ∧ ( (Is 194 (h.2.2 x0 8) 23) ∧ ( (vp_in x2 (ax_s (h.2.2 x0 8)).2) ∧ ( ((¬ h.1 (h.2.2 x0 8) x2.toNatClampNeg = 0 → (∀ v11 : Int32, v11 = x2 + (-1) → ( L_X1_markMore_12 l g h x0 x1 v11  Q))) ∧ (h.1 (h.2.2 x0 8) x2.toNatClampNeg = 0 → (C_X1_leadsToMarked l g h x0 x2 (fun r15 h14 => ( ((r15 = 0 → (∀ v17 : Int32, v17 = x2 + (-1) → ( L_X1_markMore_12 l g h14 x0 x1 v17  Q))) ∧ (¬ (r15 = 0) → ((Is 194 (h14.2.2 x0 8) 23) ∧ ( (vp_in x2 (ax_s (h14.2.2 x0 8)).2) ∧ ( ∀ h21 : AH, h21 = ax_setI h14 (h14.2.2 x0 8) x2.toNatClampNeg (vp_nar .boolean 1) → ( ∀ v23 : Int32, v23 = x2 + (-1) → ( L_X1_markMore_12 l g h21 x0 1 v23  Q))))))))))))))))))) : L_X1_markMore_12 l g h x0 x1 x2  Q := by
  refine wp_iload_n 2 dX1_markMore_12 rfl rfl ?_
  refine wp_if_lt (tgt := 48) dX1_markMore_13 (by decide) (fun c5 => ?_) (fun c5 => ?_)
  · have hb := hb.1 c5
    refine wp_iload_n 1 dX1_markMore_48 rfl rfl ?_
    obtain ⟨q6, hb⟩ := hb
    exact wp_zret rfl dX1_markMore_49 q6 ⟨_, rfl, hb⟩
  · have hb := hb.2 c5
    obtain ⟨i7, hb⟩ := hb
    refine wp_aload_n 0 dX1_markMore_16 rfl rfl ?_
    obtain ⟨i8, hb⟩ := hb
    refine wp_getR dX1_markMore_17 fl_X1_38 i7 (i8.ne (by decide)) ?_
    refine wp_iload_n 2 dX1_markMore_20 rfl rfl ?_
    obtain ⟨b9, hb⟩ := hb
    refine wp_zaload dX1_markMore_21 i8 b9 ?_
    refine wp_if_ne (tgt := 42) dX1_markMore_22 (by decide) (fun c10 => ?_) (fun c10 => ?_)
    · have hb := hb.1 c10
      obtain ⟨v11, e12⟩ : ∃ y : Int32, y = x2 + (-1) := ⟨_, rfl⟩
      have hb := hb v11 e12
      refine wp_iinc (v := v11) (lv2 := [(2, .int v11), (0, .ref x0), (1, .int x1)]) 2 dX1_markMore_42 rfl (by rw [e12]; rfl) (by decide) rfl ?_
      refine wp_goto (tgt := 12) dX1_markMore_45 (by decide) ?_
      exact wp_sub [1, 2, 0] rfl hb
    · have hb := hb.2 c10
      refine wp_aload_n 0 dX1_markMore_25 rfl rfl ?_
      refine wp_iload_n 2 dX1_markMore_26 rfl rfl ?_
      refine wp_callV (as := [.int x2]) dX1_markMore_27 cb_X1_leadsToMarked lk_X1_120 im_X1_leadsToMarked se_X1_leadsToMarked rfl (Nat.le_of_ble_eq_true rfl) ⟨by decide, by decide⟩ ⟨Nat.le_refl _, Nat.le_refl _, Nat.le_refl _⟩ i7 rfl (by decide) hb (fun r0 h14 hb => ?_)
      obtain ⟨r15, rfl, hb⟩ := hb
      refine wp_if_eq (tgt := 42) dX1_markMore_30 (by decide) (fun c16 => ?_) (fun c16 => ?_)
      · have hb := hb.1 c16
        obtain ⟨v17, e18⟩ : ∃ y : Int32, y = x2 + (-1) := ⟨_, rfl⟩
        have hb := hb v17 e18
        refine wp_iinc (v := v17) (lv2 := [(2, .int v17), (0, .ref x0), (1, .int x1)]) 2 dX1_markMore_42 rfl (by rw [e18]; rfl) (by decide) rfl ?_
        refine wp_goto (tgt := 12) dX1_markMore_45 (by decide) ?_
        exact wp_sub [1, 2, 0] rfl hb
      · have hb := hb.2 c16
        refine wp_aload_n 0 dX1_markMore_33 rfl rfl ?_
        obtain ⟨i19, hb⟩ := hb
        refine wp_getR dX1_markMore_34 fl_X1_38 i7 (i19.ne (by decide)) ?_
        refine wp_iload_n 2 dX1_markMore_37 rfl rfl ?_
        refine wp_iconst (v := 1) dX1_markMore_38 (by decide) ?_
        obtain ⟨b20, hb⟩ := hb
        refine wp_zastore dX1_markMore_39 i19 b20 ?_
        refine wp_topH (fun h21 e22 => ?_)
        have hb := hb h21 e22
        refine wp_iconst (v := 1) dX1_markMore_40 (by decide) ?_
        refine wp_istore_n (lv2 := [(1, .int 1), (0, .ref x0), (2, .int x2)]) dX1_markMore_41 rfl (by decide) rfl ?_
        obtain ⟨v23, e24⟩ : ∃ y : Int32, y = x2 + (-1) := ⟨_, rfl⟩
        have hb := hb v23 e24
        refine wp_iinc (v := v23) (lv2 := [(2, .int v23), (1, .int 1), (0, .ref x0)]) 2 dX1_markMore_42 rfl (by rw [e24]; rfl) (by decide) rfl ?_
        refine wp_goto (tgt := 12) dX1_markMore_45 (by decide) ?_
        exact wp_sub [2, 1, 0] rfl hb
theorem c_X1_markMore {l : Launch} {g : AG} {h : AH} {x0 : Nat}  {Q : Int32 → AH → Prop} (hb : L_X1_markMore_0 l g h x0  Q) : C_X1_markMore l g h x0  Q := ax_met rfl (Nat.le_of_ble_eq_true rfl) hb
