def C_X9_farthest (l : Launch) (g : AG) (h : AH) (x0 : Nat)  (Q : Int32 → AH → Prop) : Prop := Ct l g mX9_farthest 2 43 194 194 h [.ref x0] (ax_QI Q)
def L_X9_farthest_0 (l : Launch) (g : AG) (h : AH) (x0 : Nat)  (Q : Int32 → AH → Prop) : Prop := Wp l g mX9_farthest 2 43 194 194 194 0 [(0, .ref x0)] [] h (FM g 194 194 (ax_QI Q))
set_option maxRecDepth 100000 in
set_option maxHeartbeats 4000000 in
theorem s_X9_farthest_0 {l : Launch} {g : AG} {h : AH} {x0 : Nat}  {Q : Int32 → AH → Prop} (hb : (Is 194 x0 8) ∧ ( (Is 194 (h.2.2 x0 6) 1) ∧ ( C_X1_stands l g h (h.2.2 x0 6) (fun r5 h4 => ( ((r5 = 0 → (C_X9_refused l g h4 x0 6 (fun r9 h8 => ( Q r9 h8)))) ∧ (¬ (r5 = 0) → ((Is 194 (h4.2.2 x0 6) 1) ∧ ( C_X1_deepest l g h4 (h4.2.2 x0 6) (fun r13 h12 => ( C_X9_granted l g h12 x0 r13 (fun r16 h15 => ( Q r16 h15))))))))))))) : L_X9_farthest_0 l g h x0  Q := by
  obtain ⟨i1, hb⟩ := hb
  refine wp_aload_n 0 dX9_farthest_0 rfl rfl ?_
  obtain ⟨i2, hb⟩ := hb
  refine wp_getR dX9_farthest_1 fl_X9_44 i1 (i2.ne (by decide)) ?_
  refine wp_callVN (as := []) dX9_farthest_4 cb_X1_stands lk_X9_202 im_X1_stands se_X1_stands rfl (Nat.le_of_ble_eq_true rfl) ⟨by decide, by decide⟩ ⟨Nat.le_refl _, Nat.le_refl _, Nat.le_refl _⟩ i2 rfl (by decide) hb (fun r0 h4 hb => ?_)
  obtain ⟨r5, rfl, hb⟩ := hb
  refine wp_if_eq (tgt := 24) dX9_farthest_7 (by decide) (fun c6 => ?_) (fun c6 => ?_)
  · have hb := hb.1 c6
    refine wp_aload_n 0 dX9_farthest_24 rfl rfl ?_
    refine wp_bipush (v := 6) dX9_farthest_25 (by decide) ?_
    refine wp_callV (as := [.int 6]) dX9_farthest_27 cb_X9_refused lk_X9_76 im_X9_refused se_X9_refused rfl (Nat.le_of_ble_eq_true rfl) ⟨by decide, by decide⟩ ⟨Nat.le_refl _, Nat.le_refl _, Nat.le_refl _⟩ i1 rfl (by decide) hb (fun r0 h8 hb => ?_)
    obtain ⟨r9, rfl, hb⟩ := hb
    exact wp_iret rfl dX9_farthest_30 ⟨_, rfl, hb⟩
  · have hb := hb.2 c6
    refine wp_aload_n 0 dX9_farthest_10 rfl rfl ?_
    refine wp_aload_n 0 dX9_farthest_11 rfl rfl ?_
    obtain ⟨i10, hb⟩ := hb
    refine wp_getR dX9_farthest_12 fl_X9_44 i1 (i10.ne (by decide)) ?_
    refine wp_callVN (as := []) dX9_farthest_15 cb_X1_deepest lk_X9_235 im_X1_deepest se_X1_deepest rfl (Nat.le_of_ble_eq_true rfl) ⟨by decide, by decide⟩ ⟨Nat.le_refl _, Nat.le_refl _, Nat.le_refl _⟩ i10 rfl (by decide) hb (fun r0 h12 hb => ?_)
    obtain ⟨r13, rfl, hb⟩ := hb
    refine wp_callV (as := [.int r13]) dX9_farthest_18 cb_X9_granted lk_X9_97 im_X9_granted se_X9_granted rfl (Nat.le_of_ble_eq_true rfl) ⟨by decide, by decide⟩ ⟨Nat.le_refl _, Nat.le_refl _, Nat.le_refl _⟩ i1 rfl (by decide) hb (fun r0 h15 hb => ?_)
    obtain ⟨r16, rfl, hb⟩ := hb
    refine wp_goto (tgt := 30) dX9_farthest_21 (by decide) ?_
    exact wp_iret rfl dX9_farthest_30 ⟨_, rfl, hb⟩
theorem c_X9_farthest {l : Launch} {g : AG} {h : AH} {x0 : Nat}  {Q : Int32 → AH → Prop} (hb : L_X9_farthest_0 l g h x0  Q) : C_X9_farthest l g h x0  Q := ax_met rfl (Nat.le_of_ble_eq_true rfl) hb
def C_X1_waysMany (l : Launch) (g : AG) (h : AH) (x0 : Nat)  (Q : Int32 → AH → Prop) : Prop := Ct l g mX1_waysMany 1 23 194 194 h [.ref x0] (ax_QI Q)
def L_X1_waysMany_0 (l : Launch) (g : AG) (h : AH) (x0 : Nat)  (Q : Int32 → AH → Prop) : Prop := Wp l g mX1_waysMany 1 23 194 194 194 0 [(0, .ref x0)] [] h (FM g 194 194 (ax_QI Q))
def L_X1_waysMany_4 (l : Launch) (g : AG) (h : AH) (x0 : Nat) (x1 : Int32) (x2 : Int32)  (Q : Int32 → AH → Prop) : Prop := Wp l g mX1_waysMany 1 23 194 194 194 4 [(0, .ref x0), (1, .int x1), (2, .int x2)] [] h (FM g 194 194 (ax_QI Q))
set_option maxRecDepth 100000 in
set_option maxHeartbeats 4000000 in
theorem s_X1_waysMany_0 {l : Launch} {g : AG} {h : AH} {x0 : Nat}  {Q : Int32 → AH → Prop} (hb : L_X1_waysMany_4 l g h x0 0 0  Q) : L_X1_waysMany_0 l g h x0  Q := by
  refine wp_iconst (v := 0) dX1_waysMany_0 (by decide) ?_
  refine wp_istore_n (lv2 := [(1, .int 0), (0, .ref x0)]) dX1_waysMany_1 rfl (by decide) rfl ?_
  refine wp_iconst (v := 0) dX1_waysMany_2 (by decide) ?_
  refine wp_istore_n (lv2 := [(2, .int 0), (1, .int 0), (0, .ref x0)]) dX1_waysMany_3 rfl (by decide) rfl ?_
  exact wp_sub [2, 1, 0] rfl hb
set_option maxRecDepth 100000 in
set_option maxHeartbeats 4000000 in
theorem s_X1_waysMany_4 {l : Launch} {g : AG} {h : AH} {x0 : Nat} {x1 : Int32} {x2 : Int32}  {Q : Int32 → AH → Prop} (hb : (Is 194 x0 1) ∧ ( (Is 194 (h.2.2 x0 2) 5) ∧ ( ((h.1 (h.2.2 x0 2) 0 ≤ x2 → (Q x1 h)) ∧ (¬ (h.1 (h.2.2 x0 2) 0 ≤ x2) → (C_X1_waysFrom l g h x0 x2 (fun r6 h5 => ( ∀ v7 : Int32, v7 = (x1 + r6) → ( ∀ v9 : Int32, v9 = x2 + (1) → ( L_X1_waysMany_4 l g h5 x0 v7 v9  Q)))))))))) : L_X1_waysMany_4 l g h x0 x1 x2  Q := by
  refine wp_iload_n 2 dX1_waysMany_4 rfl rfl ?_
  obtain ⟨i1, hb⟩ := hb
  refine wp_aload_n 0 dX1_waysMany_5 rfl rfl ?_
  obtain ⟨i2, hb⟩ := hb
  refine wp_getR dX1_waysMany_6 fl_X1_18 i1 (i2.ne (by decide)) ?_
  refine wp_getI dX1_waysMany_9 fl_X1_50 i2 ?_
  refine wp_icmp_ge (tgt := 29) dX1_waysMany_12 (by decide) (fun c3 => ?_) (fun c3 => ?_)
  · have hb := hb.1 c3
    refine wp_iload_n 1 dX1_waysMany_29 rfl rfl ?_
    exact wp_iret rfl dX1_waysMany_30 ⟨_, rfl, hb⟩
  · have hb := hb.2 c3
    refine wp_iload_n 1 dX1_waysMany_15 rfl rfl ?_
    refine wp_aload_n 0 dX1_waysMany_16 rfl rfl ?_
    refine wp_iload_n 2 dX1_waysMany_17 rfl rfl ?_
    refine wp_callV (as := [.int x2]) dX1_waysMany_18 cb_X1_waysFrom lk_X1_85 im_X1_waysFrom se_X1_waysFrom rfl (Nat.le_of_ble_eq_true rfl) ⟨by decide, by decide⟩ ⟨Nat.le_refl _, Nat.le_refl _, Nat.le_refl _⟩ i1 rfl (by decide) hb (fun r0 h5 hb => ?_)
    obtain ⟨r6, rfl, hb⟩ := hb
    refine wp_iadd dX1_waysMany_21 ?_
    refine wp_topi (fun v7 e8 => ?_)
    have hb := hb v7 e8
    refine wp_istore_n (lv2 := [(1, .int v7), (0, .ref x0), (2, .int x2)]) dX1_waysMany_22 rfl (by decide) rfl ?_
    obtain ⟨v9, e10⟩ : ∃ y : Int32, y = x2 + (1) := ⟨_, rfl⟩
    have hb := hb v9 e10
    refine wp_iinc (v := v9) (lv2 := [(2, .int v9), (1, .int v7), (0, .ref x0)]) 2 dX1_waysMany_23 rfl (by rw [e10]; rfl) (by decide) rfl ?_
    refine wp_goto (tgt := 4) dX1_waysMany_26 (by decide) ?_
    exact wp_sub [2, 1, 0] rfl hb
theorem c_X1_waysMany {l : Launch} {g : AG} {h : AH} {x0 : Nat}  {Q : Int32 → AH → Prop} (hb : L_X1_waysMany_0 l g h x0  Q) : C_X1_waysMany l g h x0  Q := ax_met rfl (Nat.le_of_ble_eq_true rfl) hb
def C_X9_ways (l : Launch) (g : AG) (h : AH) (x0 : Nat)  (Q : Int32 → AH → Prop) : Prop := Ct l g mX9_ways 2 45 194 194 h [.ref x0] (ax_QI Q)
def L_X9_ways_0 (l : Launch) (g : AG) (h : AH) (x0 : Nat)  (Q : Int32 → AH → Prop) : Prop := Wp l g mX9_ways 2 45 194 194 194 0 [(0, .ref x0)] [] h (FM g 194 194 (ax_QI Q))
set_option maxRecDepth 100000 in
set_option maxHeartbeats 4000000 in
theorem s_X9_ways_0 {l : Launch} {g : AG} {h : AH} {x0 : Nat}  {Q : Int32 → AH → Prop} (hb : (Is 194 x0 8) ∧ ( (Is 194 (h.2.2 x0 6) 1) ∧ ( C_X1_stands l g h (h.2.2 x0 6) (fun r5 h4 => ( ((r5 = 0 → (C_X9_refused l g h4 x0 6 (fun r9 h8 => ( Q r9 h8)))) ∧ (¬ (r5 = 0) → ((Is 194 (h4.2.2 x0 6) 1) ∧ ( C_X1_waysMany l g h4 (h4.2.2 x0 6) (fun r13 h12 => ( C_X9_granted l g h12 x0 r13 (fun r16 h15 => ( Q r16 h15))))))))))))) : L_X9_ways_0 l g h x0  Q := by
  obtain ⟨i1, hb⟩ := hb
  refine wp_aload_n 0 dX9_ways_0 rfl rfl ?_
  obtain ⟨i2, hb⟩ := hb
  refine wp_getR dX9_ways_1 fl_X9_44 i1 (i2.ne (by decide)) ?_
  refine wp_callVN (as := []) dX9_ways_4 cb_X1_stands lk_X9_202 im_X1_stands se_X1_stands rfl (Nat.le_of_ble_eq_true rfl) ⟨by decide, by decide⟩ ⟨Nat.le_refl _, Nat.le_refl _, Nat.le_refl _⟩ i2 rfl (by decide) hb (fun r0 h4 hb => ?_)
  obtain ⟨r5, rfl, hb⟩ := hb
  refine wp_if_eq (tgt := 24) dX9_ways_7 (by decide) (fun c6 => ?_) (fun c6 => ?_)
  · have hb := hb.1 c6
    refine wp_aload_n 0 dX9_ways_24 rfl rfl ?_
    refine wp_bipush (v := 6) dX9_ways_25 (by decide) ?_
    refine wp_callV (as := [.int 6]) dX9_ways_27 cb_X9_refused lk_X9_76 im_X9_refused se_X9_refused rfl (Nat.le_of_ble_eq_true rfl) ⟨by decide, by decide⟩ ⟨Nat.le_refl _, Nat.le_refl _, Nat.le_refl _⟩ i1 rfl (by decide) hb (fun r0 h8 hb => ?_)
    obtain ⟨r9, rfl, hb⟩ := hb
    exact wp_iret rfl dX9_ways_30 ⟨_, rfl, hb⟩
  · have hb := hb.2 c6
    refine wp_aload_n 0 dX9_ways_10 rfl rfl ?_
    refine wp_aload_n 0 dX9_ways_11 rfl rfl ?_
    obtain ⟨i10, hb⟩ := hb
    refine wp_getR dX9_ways_12 fl_X9_44 i1 (i10.ne (by decide)) ?_
    refine wp_callVN (as := []) dX9_ways_15 cb_X1_waysMany lk_X9_238 im_X1_waysMany se_X1_waysMany rfl (Nat.le_of_ble_eq_true rfl) ⟨by decide, by decide⟩ ⟨Nat.le_refl _, Nat.le_refl _, Nat.le_refl _⟩ i10 rfl (by decide) hb (fun r0 h12 hb => ?_)
    obtain ⟨r13, rfl, hb⟩ := hb
    refine wp_callV (as := [.int r13]) dX9_ways_18 cb_X9_granted lk_X9_97 im_X9_granted se_X9_granted rfl (Nat.le_of_ble_eq_true rfl) ⟨by decide, by decide⟩ ⟨Nat.le_refl _, Nat.le_refl _, Nat.le_refl _⟩ i1 rfl (by decide) hb (fun r0 h15 hb => ?_)
    obtain ⟨r16, rfl, hb⟩ := hb
    refine wp_goto (tgt := 30) dX9_ways_21 (by decide) ?_
    exact wp_iret rfl dX9_ways_30 ⟨_, rfl, hb⟩
theorem c_X9_ways {l : Launch} {g : AG} {h : AH} {x0 : Nat}  {Q : Int32 → AH → Prop} (hb : L_X9_ways_0 l g h x0  Q) : C_X9_ways l g h x0  Q := ax_met rfl (Nat.le_of_ble_eq_true rfl) hb
def C_X9_push (l : Launch) (g : AG) (h : AH) (x0 : Nat) (x1 : Int32)  (Q : Int32 → AH → Prop) : Prop := Ct l g mX9_push 1 21 194 194 h [.ref x0, .int x1] (ax_QI Q)
def L_X9_push_0 (l : Launch) (g : AG) (h : AH) (x0 : Nat) (x1 : Int32)  (Q : Int32 → AH → Prop) : Prop := Wp l g mX9_push 1 21 194 194 194 0 [(0, .ref x0), (1, .int x1)] [] h (FM g 194 194 (ax_QI Q))
set_option maxRecDepth 100000 in
set_option maxHeartbeats 4000000 in
theorem s_X9_push_0 {l : Launch} {g : AG} {h : AH} {x0 : Nat} {x1 : Int32}  {Q : Int32 → AH → Prop} (hb : ((x1 < 0 → ((Is 194 x0 8) ∧ ( C_X9_refused l g h x0 2 (fun r5 h4 => ( Q r5 h4))))) ∧ (¬ (x1 < 0) → (((x1 < 27 → ((Is 194 x0 8) ∧ ( ((h.1 x0 9 < 400 → ((Is 194 (h.2.2 x0 8) 20) ∧ ( (vp_in (h.1 x0 9) (ax_s (h.2.2 x0 8)).2) ∧ ( ∀ h11 : AH, h11 = ax_setI h (h.2.2 x0 8) (h.1 x0 9).toNatClampNeg x1 → ( ∀ h13 : AH, h13 = ax_setI h11 x0 9 ((h11.1 x0 9) + 1) → ( C_X9_granted l g h13 x0 (h13.1 x0 9) (fun r17 h16 => ( Q r17 h16)))))))) ∧ (¬ (h.1 x0 9 < 400) → (C_X9_refused l g h x0 4 (fun r20 h19 => ( Q r20 h19)))))))) ∧ (¬ (x1 < 27) → ((Is 194 x0 8) ∧ ( C_X9_refused l g h x0 2 (fun r24 h23 => ( Q r24 h23)))))))))) : L_X9_push_0 l g h x0 x1  Q := by
  refine wp_iload_n 1 dX9_push_0 rfl rfl ?_
  refine wp_if_lt (tgt := 10) dX9_push_1 (by decide) (fun c1 => ?_) (fun c1 => ?_)
  · have hb := hb.1 c1
    obtain ⟨i2, hb⟩ := hb
    refine wp_aload_n 0 dX9_push_10 rfl rfl ?_
    refine wp_iconst (v := 2) dX9_push_11 (by decide) ?_
    refine wp_callV (as := [.int 2]) dX9_push_12 cb_X9_refused lk_X9_76 im_X9_refused se_X9_refused rfl (Nat.le_of_ble_eq_true rfl) ⟨by decide, by decide⟩ ⟨Nat.le_refl _, Nat.le_refl _, Nat.le_refl _⟩ i2 rfl (by decide) hb (fun r0 h4 hb => ?_)
    obtain ⟨r5, rfl, hb⟩ := hb
    exact wp_iret rfl dX9_push_15 ⟨_, rfl, hb⟩
  · have hb := hb.2 c1
    refine wp_iload_n 1 dX9_push_4 rfl rfl ?_
    refine wp_bipush (v := 27) dX9_push_5 (by decide) ?_
    refine wp_icmp_lt (tgt := 16) dX9_push_7 (by decide) (fun c6 => ?_) (fun c6 => ?_)
    · have hb := hb.1 c6
      obtain ⟨i7, hb⟩ := hb
      refine wp_aload_n 0 dX9_push_16 rfl rfl ?_
      refine wp_getI dX9_push_17 fl_X9_60 i7 ?_
      refine wp_sipush (v := 400) dX9_push_20 (by decide) ?_
      refine wp_icmp_lt (tgt := 32) dX9_push_23 (by decide) (fun c8 => ?_) (fun c8 => ?_)
      · have hb := hb.1 c8
        refine wp_aload_n 0 dX9_push_32 rfl rfl ?_
        obtain ⟨i9, hb⟩ := hb
        refine wp_getR dX9_push_33 fl_X9_57 i7 (i9.ne (by decide)) ?_
        refine wp_aload_n 0 dX9_push_36 rfl rfl ?_
        refine wp_getI dX9_push_37 fl_X9_60 i7 ?_
        refine wp_iload_n 1 dX9_push_40 rfl rfl ?_
        obtain ⟨b10, hb⟩ := hb
        refine wp_iastore dX9_push_41 i9 b10 ?_
        refine wp_topH (fun h11 e12 => ?_)
        have hb := hb h11 e12
        refine wp_aload_n 0 dX9_push_42 rfl rfl ?_
        refine wp_dup dX9_push_43 rfl ?_
        refine wp_getI dX9_push_44 fl_X9_60 i7 ?_
        refine wp_iconst (v := 1) dX9_push_47 (by decide) ?_
        refine wp_iadd dX9_push_48 ?_
        refine wp_putI dX9_push_49 fl_X9_60 (Or.inl rfl) i7 ?_
        refine wp_topH (fun h13 e14 => ?_)
        have hb := hb h13 e14
        refine wp_aload_n 0 dX9_push_52 rfl rfl ?_
        refine wp_aload_n 0 dX9_push_53 rfl rfl ?_
        refine wp_getI dX9_push_54 fl_X9_60 i7 ?_
        refine wp_callV (as := [.int (h13.1 x0 9)]) dX9_push_57 cb_X9_granted lk_X9_97 im_X9_granted se_X9_granted rfl (Nat.le_of_ble_eq_true rfl) ⟨by decide, by decide⟩ ⟨Nat.le_refl _, Nat.le_refl _, Nat.le_refl _⟩ i7 rfl (by decide) hb (fun r0 h16 hb => ?_)
        obtain ⟨r17, rfl, hb⟩ := hb
        exact wp_iret rfl dX9_push_60 ⟨_, rfl, hb⟩
      · have hb := hb.2 c8
        refine wp_aload_n 0 dX9_push_26 rfl rfl ?_
        refine wp_iconst (v := 4) dX9_push_27 (by decide) ?_
        refine wp_callV (as := [.int 4]) dX9_push_28 cb_X9_refused lk_X9_76 im_X9_refused se_X9_refused rfl (Nat.le_of_ble_eq_true rfl) ⟨by decide, by decide⟩ ⟨Nat.le_refl _, Nat.le_refl _, Nat.le_refl _⟩ i7 rfl (by decide) hb (fun r0 h19 hb => ?_)
        obtain ⟨r20, rfl, hb⟩ := hb
        exact wp_iret rfl dX9_push_31 ⟨_, rfl, hb⟩
    · have hb := hb.2 c6
      obtain ⟨i21, hb⟩ := hb
      refine wp_aload_n 0 dX9_push_10 rfl rfl ?_
      refine wp_iconst (v := 2) dX9_push_11 (by decide) ?_
      refine wp_callV (as := [.int 2]) dX9_push_12 cb_X9_refused lk_X9_76 im_X9_refused se_X9_refused rfl (Nat.le_of_ble_eq_true rfl) ⟨by decide, by decide⟩ ⟨Nat.le_refl _, Nat.le_refl _, Nat.le_refl _⟩ i21 rfl (by decide) hb (fun r0 h23 hb => ?_)
      obtain ⟨r24, rfl, hb⟩ := hb
      exact wp_iret rfl dX9_push_15 ⟨_, rfl, hb⟩
theorem c_X9_push {l : Launch} {g : AG} {h : AH} {x0 : Nat} {x1 : Int32}  {Q : Int32 → AH → Prop} (hb : L_X9_push_0 l g h x0 x1  Q) : C_X9_push l g h x0 x1  Q := ax_met rfl (Nat.le_of_ble_eq_true rfl) hb
