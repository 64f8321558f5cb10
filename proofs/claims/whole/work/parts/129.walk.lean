def C_X9_leads (l : Launch) (g : AG) (h : AH) (x0 : Nat) (x1 : Int32) (x2 : Int32)  (Q : Int32 → AH → Prop) : Prop := Ct l g mX9_leads 2 40 194 194 h [.ref x0, .int x1, .int x2] (ax_QI Q)
def L_X9_leads_0 (l : Launch) (g : AG) (h : AH) (x0 : Nat) (x1 : Int32) (x2 : Int32)  (Q : Int32 → AH → Prop) : Prop := Wp l g mX9_leads 2 40 194 194 194 0 [(0, .ref x0), (1, .int x1), (2, .int x2)] [] h (FM g 194 194 (ax_QI Q))
set_option maxRecDepth 100000 in
set_option maxHeartbeats 4000000 in
theorem s_X9_leads_0 {l : Launch} {g : AG} {h : AH} {x0 : Nat} {x1 : Int32} {x2 : Int32}  {Q : Int32 → AH → Prop} (hb : ((x1 < 0 → (Q (-1) h)) ∧ (¬ (x1 < 0) → ((Is 194 x0 8) ∧ ( (Is 194 (h.2.2 x0 6) 1) ∧ ( C_X1_many l g h (h.2.2 x0 6) (fun r6 h5 => ( ((r6 ≤ x1 → (Q (-1) h5)) ∧ (¬ (r6 ≤ x1) → (((x2 < 0 → (Q (-1) h5)) ∧ (¬ (x2 < 0) → (((x2 < 27 → ((Is 194 (h5.2.2 x0 6) 1) ∧ ( (Is 194 (h5.2.2 (h5.2.2 x0 6) 3) 20) ∧ ( (vp_in ((x1 * 27) + x2) (ax_s (h5.2.2 (h5.2.2 x0 6) 3)).2) ∧ ( ∀ v13 : Int32, v13 = (h5.1 (h5.2.2 (h5.2.2 x0 6) 3) ((x1 * 27) + x2).toNatClampNeg) → ( Q v13 h5)))))) ∧ (¬ (x2 < 27) → (Q (-1) h5))))))))))))))))) : L_X9_leads_0 l g h x0 x1 x2  Q := by
  refine wp_iload_n 1 dX9_leads_0 rfl rfl ?_
  refine wp_if_lt (tgt := 25) dX9_leads_1 (by decide) (fun c1 => ?_) (fun c1 => ?_)
  · have hb := hb.1 c1
    refine wp_iconst (v := (-1)) dX9_leads_25 (by decide) ?_
    exact wp_iret rfl dX9_leads_26 ⟨_, rfl, hb⟩
  · have hb := hb.2 c1
    refine wp_iload_n 1 dX9_leads_4 rfl rfl ?_
    obtain ⟨i2, hb⟩ := hb
    refine wp_aload_n 0 dX9_leads_5 rfl rfl ?_
    obtain ⟨i3, hb⟩ := hb
    refine wp_getR dX9_leads_6 fl_X9_44 i2 (i3.ne (by decide)) ?_
    refine wp_callVN (as := []) dX9_leads_9 cb_X1_many lk_X9_178 im_X1_many se_X1_many rfl (Nat.le_of_ble_eq_true rfl) ⟨by decide, by decide⟩ ⟨Nat.le_refl _, Nat.le_refl _, Nat.le_refl _⟩ i3 rfl (by decide) hb (fun r0 h5 hb => ?_)
    obtain ⟨r6, rfl, hb⟩ := hb
    refine wp_icmp_ge (tgt := 25) dX9_leads_12 (by decide) (fun c7 => ?_) (fun c7 => ?_)
    · have hb := hb.1 c7
      refine wp_iconst (v := (-1)) dX9_leads_25 (by decide) ?_
      exact wp_iret rfl dX9_leads_26 ⟨_, rfl, hb⟩
    · have hb := hb.2 c7
      refine wp_iload_n 2 dX9_leads_15 rfl rfl ?_
      refine wp_if_lt (tgt := 25) dX9_leads_16 (by decide) (fun c8 => ?_) (fun c8 => ?_)
      · have hb := hb.1 c8
        refine wp_iconst (v := (-1)) dX9_leads_25 (by decide) ?_
        exact wp_iret rfl dX9_leads_26 ⟨_, rfl, hb⟩
      · have hb := hb.2 c8
        refine wp_iload_n 2 dX9_leads_19 rfl rfl ?_
        refine wp_bipush (v := 27) dX9_leads_20 (by decide) ?_
        refine wp_icmp_lt (tgt := 27) dX9_leads_22 (by decide) (fun c9 => ?_) (fun c9 => ?_)
        · have hb := hb.1 c9
          refine wp_aload_n 0 dX9_leads_27 rfl rfl ?_
          obtain ⟨i10, hb⟩ := hb
          refine wp_getR dX9_leads_28 fl_X9_44 i2 (i10.ne (by decide)) ?_
          obtain ⟨i11, hb⟩ := hb
          refine wp_getR dX9_leads_31 fl_X9_199 i10 (i11.ne (by decide)) ?_
          refine wp_iload_n 1 dX9_leads_34 rfl rfl ?_
          refine wp_bipush (v := 27) dX9_leads_35 (by decide) ?_
          refine wp_imul dX9_leads_37 ?_
          refine wp_iload_n 2 dX9_leads_38 rfl rfl ?_
          refine wp_iadd dX9_leads_39 ?_
          obtain ⟨b12, hb⟩ := hb
          refine wp_iaload dX9_leads_40 i11 b12 ?_
          refine wp_topi (fun v13 e14 => ?_)
          have hb := hb v13 e14
          exact wp_iret rfl dX9_leads_41 ⟨_, rfl, hb⟩
        · have hb := hb.2 c9
          refine wp_iconst (v := (-1)) dX9_leads_25 (by decide) ?_
          exact wp_iret rfl dX9_leads_26 ⟨_, rfl, hb⟩
theorem c_X9_leads {l : Launch} {g : AG} {h : AH} {x0 : Nat} {x1 : Int32} {x2 : Int32}  {Q : Int32 → AH → Prop} (hb : L_X9_leads_0 l g h x0 x1 x2  Q) : C_X9_leads l g h x0 x1 x2  Q := ax_met rfl (Nat.le_of_ble_eq_true rfl) hb
def C_X6_traced (l : Launch) (g : AG) (h : AH) (x0 : Nat) (x1 : Int32) (x2 : Nat)  (Q : Int32 → AH → Prop) : Prop := Ct l g mX6_traced 0 0 194 194 h [.ref x0, .int x1, .ref x2] (ax_QI Q)
def L_X6_traced_0 (l : Launch) (g : AG) (h : AH) (x0 : Nat) (x1 : Int32) (x2 : Nat)  (Q : Int32 → AH → Prop) : Prop := Wp l g mX6_traced 0 0 194 194 194 0 [(0, .ref x0), (1, .int x1), (2, .ref x2)] [] h (FM g 194 194 (ax_QI Q))
def L_X6_traced_12 (l : Launch) (g : AG) (h : AH) (x0 : Nat) (x1 : Int32) (x2 : Nat) (x3 : Int32) (x4 : Int32)  (Q : Int32 → AH → Prop) : Prop := Wp l g mX6_traced 0 0 194 194 194 12 [(0, .ref x0), (1, .int x1), (2, .ref x2), (3, .int x3), (4, .int x4)] [] h (FM g 194 194 (ax_QI Q))
set_option maxRecDepth 100000 in
set_option maxHeartbeats 4000000 in
theorem s_X6_traced_0 {l : Launch} {g : AG} {h : AH} {x0 : Nat} {x1 : Int32} {x2 : Nat}  {Q : Int32 → AH → Prop} (hb : (Is 194 x0 5) ∧ ( (Is 194 (h.2.2 x0 5) 20) ∧ ( (vp_in x1 (ax_s (h.2.2 x0 5)).2) ∧ ( ∀ v4 : Int32, v4 = ((h.1 (h.2.2 x0 5) x1.toNatClampNeg) - 1) → ( L_X6_traced_12 l g h x0 x1 x2 x1 v4  Q))))) : L_X6_traced_0 l g h x0 x1 x2  Q := by
  refine wp_iload_n 1 dX6_traced_0 rfl rfl ?_
  refine wp_istore_n (lv2 := [(3, .int x1), (0, .ref x0), (1, .int x1), (2, .ref x2)]) dX6_traced_1 rfl (by decide) rfl ?_
  obtain ⟨i1, hb⟩ := hb
  refine wp_aload_n 1 dX6_traced_2 rfl rfl ?_
  obtain ⟨i2, hb⟩ := hb
  refine wp_getR dX6_traced_3 fl_X6_29 i1 (i2.ne (by decide)) ?_
  refine wp_iload_n 2 dX6_traced_6 rfl rfl ?_
  obtain ⟨b3, hb⟩ := hb
  refine wp_iaload dX6_traced_7 i2 b3 ?_
  refine wp_iconst (v := 1) dX6_traced_8 (by decide) ?_
  refine wp_isub dX6_traced_9 ?_
  refine wp_topi (fun v4 e5 => ?_)
  have hb := hb v4 e5
  refine wp_istore (lv2 := [(4, .int v4), (3, .int x1), (0, .ref x0), (1, .int x1), (2, .ref x2)]) dX6_traced_10 (by decide) rfl ?_
  exact wp_sub [2, 3, 4, 1, 0] rfl hb
set_option maxRecDepth 100000 in
set_option maxHeartbeats 4000000 in
theorem s_X6_traced_12 {l : Launch} {g : AG} {h : AH} {x0 : Nat} {x1 : Int32} {x2 : Nat} {x3 : Int32} {x4 : Int32}  {Q : Int32 → AH → Prop} (hb : ((x4 < 0 → ((Is 194 x0 5) ∧ ( (Is 194 (h.2.2 x0 5) 20) ∧ ( (vp_in x1 (ax_s (h.2.2 x0 5)).2) ∧ ( Q (h.1 (h.2.2 x0 5) x1.toNatClampNeg) h))))) ∧ (¬ (x4 < 0) → (((x3 < 0 → ((Is 194 x0 5) ∧ ( (Is 194 (h.2.2 x0 5) 20) ∧ ( (vp_in x1 (ax_s (h.2.2 x0 5)).2) ∧ ( Q (h.1 (h.2.2 x0 5) x1.toNatClampNeg) h))))) ∧ (¬ (x3 < 0) → ((Is 194 x2 20) ∧ ( ((Int32.ofNat (ax_s x2).2 ≤ x4 → ((Is 194 x0 5) ∧ ( (Is 194 (h.2.2 x0 5) 20) ∧ ( (vp_in x1 (ax_s (h.2.2 x0 5)).2) ∧ ( Q (h.1 (h.2.2 x0 5) x1.toNatClampNeg) h))))) ∧ (¬ (Int32.ofNat (ax_s x2).2 ≤ x4) → ((Is 194 x0 5) ∧ ( (Is 194 (h.2.2 x0 4) 20) ∧ ( (vp_in x3 (ax_s (h.2.2 x0 4)).2) ∧ ( (vp_in x4 (ax_s x2).2) ∧ ( ∀ h23 : AH, h23 = ax_setI h x2 x4.toNatClampNeg (h.1 (h.2.2 x0 4) x3.toNatClampNeg) → ( (Is 194 (h23.2.2 x0 3) 20) ∧ ( (vp_in x3 (ax_s (h23.2.2 x0 3)).2) ∧ ( ∀ v27 : Int32, v27 = (h23.1 (h23.2.2 x0 3) x3.toNatClampNeg) → ( ∀ v29 : Int32, v29 = x4 + (-1) → ( L_X6_traced_12 l g h23 x0 x1 x2 v27 v29  Q)))))))))))))))))))) : L_X6_traced_12 l g h x0 x1 x2 x3 x4  Q := by
  refine wp_iload 4 dX6_traced_12 rfl ?_
  refine wp_if_lt (tgt := 51) dX6_traced_14 (by decide) (fun c6 => ?_) (fun c6 => ?_)
  · have hb := hb.1 c6
    obtain ⟨i7, hb⟩ := hb
    refine wp_aload_n 0 dX6_traced_51 rfl rfl ?_
    obtain ⟨i8, hb⟩ := hb
    refine wp_getR dX6_traced_52 fl_X6_29 i7 (i8.ne (by decide)) ?_
    refine wp_iload_n 1 dX6_traced_55 rfl rfl ?_
    obtain ⟨b9, hb⟩ := hb
    refine wp_iaload dX6_traced_56 i8 b9 ?_
    exact wp_iret rfl dX6_traced_57 ⟨_, rfl, hb⟩
  · have hb := hb.2 c6
    refine wp_iload_n 3 dX6_traced_17 rfl rfl ?_
    refine wp_if_lt (tgt := 51) dX6_traced_18 (by decide) (fun c10 => ?_) (fun c10 => ?_)
    · have hb := hb.1 c10
      obtain ⟨i11, hb⟩ := hb
      refine wp_aload_n 0 dX6_traced_51 rfl rfl ?_
      obtain ⟨i12, hb⟩ := hb
      refine wp_getR dX6_traced_52 fl_X6_29 i11 (i12.ne (by decide)) ?_
      refine wp_iload_n 1 dX6_traced_55 rfl rfl ?_
      obtain ⟨b13, hb⟩ := hb
      refine wp_iaload dX6_traced_56 i12 b13 ?_
      exact wp_iret rfl dX6_traced_57 ⟨_, rfl, hb⟩
    · have hb := hb.2 c10
      refine wp_iload 4 dX6_traced_21 rfl ?_
      obtain ⟨i14, hb⟩ := hb
      refine wp_aload_n 2 dX6_traced_23 rfl rfl ?_
      refine wp_alen dX6_traced_24 i14 (by decide) rfl ?_
      refine wp_icmp_ge (tgt := 51) dX6_traced_25 (by decide) (fun c15 => ?_) (fun c15 => ?_)
      · have hb := hb.1 c15
        obtain ⟨i16, hb⟩ := hb
        refine wp_aload_n 0 dX6_traced_51 rfl rfl ?_
        obtain ⟨i17, hb⟩ := hb
        refine wp_getR dX6_traced_52 fl_X6_29 i16 (i17.ne (by decide)) ?_
        refine wp_iload_n 1 dX6_traced_55 rfl rfl ?_
        obtain ⟨b18, hb⟩ := hb
        refine wp_iaload dX6_traced_56 i17 b18 ?_
        exact wp_iret rfl dX6_traced_57 ⟨_, rfl, hb⟩
      · have hb := hb.2 c15
        refine wp_aload_n 2 dX6_traced_28 rfl rfl ?_
        refine wp_iload 4 dX6_traced_29 rfl ?_
        obtain ⟨i19, hb⟩ := hb
        refine wp_aload_n 0 dX6_traced_31 rfl rfl ?_
        obtain ⟨i20, hb⟩ := hb
        refine wp_getR dX6_traced_32 fl_X6_26 i19 (i20.ne (by decide)) ?_
        refine wp_iload_n 3 dX6_traced_35 rfl rfl ?_
        obtain ⟨b21, hb⟩ := hb
        refine wp_iaload dX6_traced_36 i20 b21 ?_
        obtain ⟨b22, hb⟩ := hb
        refine wp_iastore dX6_traced_37 i14 b22 ?_
        refine wp_topH (fun h23 e24 => ?_)
        have hb := hb h23 e24
        refine wp_aload_n 0 dX6_traced_38 rfl rfl ?_
        obtain ⟨i25, hb⟩ := hb
        refine wp_getR dX6_traced_39 fl_X6_22 i19 (i25.ne (by decide)) ?_
        refine wp_iload_n 3 dX6_traced_42 rfl rfl ?_
        obtain ⟨b26, hb⟩ := hb
        refine wp_iaload dX6_traced_43 i25 b26 ?_
        refine wp_topi (fun v27 e28 => ?_)
        have hb := hb v27 e28
        refine wp_istore_n (lv2 := [(3, .int v27), (0, .ref x0), (1, .int x1), (2, .ref x2), (4, .int x4)]) dX6_traced_44 rfl (by decide) rfl ?_
        obtain ⟨v29, e30⟩ : ∃ y : Int32, y = x4 + (-1) := ⟨_, rfl⟩
        have hb := hb v29 e30
        refine wp_iinc (v := v29) (lv2 := [(4, .int v29), (3, .int v27), (0, .ref x0), (1, .int x1), (2, .ref x2)]) 4 dX6_traced_45 rfl (by rw [e30]; rfl) (by decide) rfl ?_
        refine wp_goto (tgt := 12) dX6_traced_48 (by decide) ?_
        exact wp_sub [2, 3, 4, 1, 0] rfl hb
theorem c_X6_traced {l : Launch} {g : AG} {h : AH} {x0 : Nat} {x1 : Int32} {x2 : Nat}  {Q : Int32 → AH → Prop} (hb : L_X6_traced_0 l g h x0 x1 x2  Q) : C_X6_traced l g h x0 x1 x2  Q := ax_met rfl (Nat.le_of_ble_eq_true rfl) hb
def C_X9_rowTo (l : Launch) (g : AG) (h : AH) (x0 : Nat) (x1 : Int32)  (Q : Int32 → AH → Prop) : Prop := Ct l g mX9_rowTo 2 40 194 194 h [.ref x0, .int x1] (ax_QI Q)
def L_X9_rowTo_0 (l : Launch) (g : AG) (h : AH) (x0 : Nat) (x1 : Int32)  (Q : Int32 → AH → Prop) : Prop := Wp l g mX9_rowTo 2 40 194 194 194 0 [(0, .ref x0), (1, .int x1)] [] h (FM g 194 194 (ax_QI Q))
set_option maxRecDepth 100000 in
set_option maxHeartbeats 4000000 in
theorem s_X9_rowTo_0 {l : Launch} {g : AG} {h : AH} {x0 : Nat} {x1 : Int32}  {Q : Int32 → AH → Prop} (hb : (Is 194 x0 8) ∧ ( (Is 194 (h.2.2 x0 6) 1) ∧ ( C_X1_stands l g h (h.2.2 x0 6) (fun r5 h4 => ( ((¬ r5 = 0 → (((x1 < 0 → (C_X9_refused l g h4 x0 1 (fun r10 h9 => ( Q r10 h9)))) ∧ (¬ (x1 < 0) → ((Is 194 (h4.2.2 x0 6) 1) ∧ ( C_X1_many l g h4 (h4.2.2 x0 6) (fun r14 h13 => ( ((x1 < r14 → ((Is 194 (h13.2.2 x0 6) 1) ∧ ( (Is 194 (h13.2.2 (h13.2.2 x0 6) 2) 5) ∧ ( (Is 194 (h13.2.2 x0 8) 20) ∧ ( C_X6_traced l g h13 (h13.2.2 (h13.2.2 x0 6) 2) x1 (h13.2.2 x0 8) (fun r21 h20 => ( ∀ h22 : AH, h22 = ax_setI h20 x0 9 r21 → ( C_X9_granted l g h22 x0 (h22.1 x0 9) (fun r26 h25 => ( Q r26 h25)))))))))) ∧ (¬ (x1 < r14) → (C_X9_refused l g h13 x0 1 (fun r29 h28 => ( Q r29 h28))))))))))))) ∧ (r5 = 0 → (C_X9_refused l g h4 x0 6 (fun r32 h31 => ( Q r32 h31)))))))))) : L_X9_rowTo_0 l g h x0 x1  Q := by
  obtain ⟨i1, hb⟩ := hb
  refine wp_aload_n 0 dX9_rowTo_0 rfl rfl ?_
  obtain ⟨i2, hb⟩ := hb
  refine wp_getR dX9_rowTo_1 fl_X9_44 i1 (i2.ne (by decide)) ?_
  refine wp_callVN (as := []) dX9_rowTo_4 cb_X1_stands lk_X9_202 im_X1_stands se_X1_stands rfl (Nat.le_of_ble_eq_true rfl) ⟨by decide, by decide⟩ ⟨Nat.le_refl _, Nat.le_refl _, Nat.le_refl _⟩ i2 rfl (by decide) hb (fun r0 h4 hb => ?_)
  obtain ⟨r5, rfl, hb⟩ := hb
  refine wp_if_ne (tgt := 17) dX9_rowTo_7 (by decide) (fun c6 => ?_) (fun c6 => ?_)
  · have hb := hb.1 c6
    refine wp_iload_n 1 dX9_rowTo_17 rfl rfl ?_
    refine wp_if_lt (tgt := 32) dX9_rowTo_18 (by decide) (fun c7 => ?_) (fun c7 => ?_)
    · have hb := hb.1 c7
      refine wp_aload_n 0 dX9_rowTo_32 rfl rfl ?_
      refine wp_iconst (v := 1) dX9_rowTo_33 (by decide) ?_
      refine wp_callV (as := [.int 1]) dX9_rowTo_34 cb_X9_refused lk_X9_76 im_X9_refused se_X9_refused rfl (Nat.le_of_ble_eq_true rfl) ⟨by decide, by decide⟩ ⟨Nat.le_refl _, Nat.le_refl _, Nat.le_refl _⟩ i1 rfl (by decide) hb (fun r0 h9 hb => ?_)
      obtain ⟨r10, rfl, hb⟩ := hb
      exact wp_iret rfl dX9_rowTo_37 ⟨_, rfl, hb⟩
    · have hb := hb.2 c7
      refine wp_iload_n 1 dX9_rowTo_21 rfl rfl ?_
      refine wp_aload_n 0 dX9_rowTo_22 rfl rfl ?_
      obtain ⟨i11, hb⟩ := hb
      refine wp_getR dX9_rowTo_23 fl_X9_44 i1 (i11.ne (by decide)) ?_
      refine wp_callVN (as := []) dX9_rowTo_26 cb_X1_many lk_X9_178 im_X1_many se_X1_many rfl (Nat.le_of_ble_eq_true rfl) ⟨by decide, by decide⟩ ⟨Nat.le_refl _, Nat.le_refl _, Nat.le_refl _⟩ i11 rfl (by decide) hb (fun r0 h13 hb => ?_)
      obtain ⟨r14, rfl, hb⟩ := hb
      refine wp_icmp_lt (tgt := 38) dX9_rowTo_29 (by decide) (fun c15 => ?_) (fun c15 => ?_)
      · have hb := hb.1 c15
        refine wp_aload_n 0 dX9_rowTo_38 rfl rfl ?_
        refine wp_aload_n 0 dX9_rowTo_39 rfl rfl ?_
        obtain ⟨i16, hb⟩ := hb
        refine wp_getR dX9_rowTo_40 fl_X9_44 i1 (i16.ne (by decide)) ?_
        obtain ⟨i17, hb⟩ := hb
        refine wp_getR dX9_rowTo_43 fl_X9_181 i16 (i17.ne (by decide)) ?_
        refine wp_iload_n 1 dX9_rowTo_46 rfl rfl ?_
        refine wp_aload_n 0 dX9_rowTo_47 rfl rfl ?_
        obtain ⟨i18, hb⟩ := hb
        refine wp_getR dX9_rowTo_48 fl_X9_57 i1 (i18.ne (by decide)) ?_
        refine wp_callVN (as := [.int x1, .ref (h13.2.2 x0 8)]) dX9_rowTo_51 cb_X6_traced lk_X9_206 im_X6_traced se_X6_traced rfl (Nat.le_of_ble_eq_true rfl) ⟨by decide, by decide⟩ ⟨Nat.le_refl _, Nat.le_refl _, Nat.le_refl _⟩ i17 rfl (by decide) hb (fun r0 h20 hb => ?_)
        obtain ⟨r21, rfl, hb⟩ := hb
        refine wp_putI dX9_rowTo_54 fl_X9_60 (Or.inl rfl) i1 ?_
        refine wp_topH (fun h22 e23 => ?_)
        have hb := hb h22 e23
        refine wp_aload_n 0 dX9_rowTo_57 rfl rfl ?_
        refine wp_aload_n 0 dX9_rowTo_58 rfl rfl ?_
        refine wp_getI dX9_rowTo_59 fl_X9_60 i1 ?_
        refine wp_callV (as := [.int (h22.1 x0 9)]) dX9_rowTo_62 cb_X9_granted lk_X9_97 im_X9_granted se_X9_granted rfl (Nat.le_of_ble_eq_true rfl) ⟨by decide, by decide⟩ ⟨Nat.le_refl _, Nat.le_refl _, Nat.le_refl _⟩ i1 rfl (by decide) hb (fun r0 h25 hb => ?_)
        obtain ⟨r26, rfl, hb⟩ := hb
        exact wp_iret rfl dX9_rowTo_65 ⟨_, rfl, hb⟩
      · have hb := hb.2 c15
        refine wp_aload_n 0 dX9_rowTo_32 rfl rfl ?_
        refine wp_iconst (v := 1) dX9_rowTo_33 (by decide) ?_
        refine wp_callV (as := [.int 1]) dX9_rowTo_34 cb_X9_refused lk_X9_76 im_X9_refused se_X9_refused rfl (Nat.le_of_ble_eq_true rfl) ⟨by decide, by decide⟩ ⟨Nat.le_refl _, Nat.le_refl _, Nat.le_refl _⟩ i1 rfl (by decide) hb (fun r0 h28 hb => ?_)
        obtain ⟨r29, rfl, hb⟩ := hb
        exact wp_iret rfl dX9_rowTo_37 ⟨_, rfl, hb⟩
  · have hb := hb.2 c6
    refine wp_aload_n 0 dX9_rowTo_10 rfl rfl ?_
    refine wp_bipush (v := 6) dX9_rowTo_11 (by decide) ?_
    refine wp_callV (as := [.int 6]) dX9_rowTo_13 cb_X9_refused lk_X9_76 im_X9_refused se_X9_refused rfl (Nat.le_of_ble_eq_true rfl) ⟨by decide, by decide⟩ ⟨Nat.le_refl _, Nat.le_refl _, Nat.le_refl _⟩ i1 rfl (by decide) hb (fun r0 h31 hb => ?_)
    obtain ⟨r32, rfl, hb⟩ := hb
    exact wp_iret rfl dX9_rowTo_16 ⟨_, rfl, hb⟩
theorem c_X9_rowTo {l : Launch} {g : AG} {h : AH} {x0 : Nat} {x1 : Int32}  {Q : Int32 → AH → Prop} (hb : L_X9_rowTo_0 l g h x0 x1  Q) : C_X9_rowTo l g h x0 x1  Q := ax_met rfl (Nat.le_of_ble_eq_true rfl) hb
