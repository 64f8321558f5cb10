def C_X9_least (l : Launch) (g : AG) (h : AH) (x0 : Nat)  (Q : Int32 → AH → Prop) : Prop := Ct l g mX9_least 5 125 194 194 h [.ref x0] (ax_QI Q)
def L_X9_least_0 (l : Launch) (g : AG) (h : AH) (x0 : Nat)  (Q : Int32 → AH → Prop) : Prop := Wp l g mX9_least 5 125 194 194 194 0 [(0, .ref x0)] [] h (FM g 194 194 (ax_QI Q))
set_option maxRecDepth 100000 in
set_option maxHeartbeats 4000000 in
theorem s_X9_least_0 {l : Launch} {g : AG} {h : AH} {x0 : Nat}  {Q : Int32 → AH → Prop} (hb : (Is 194 x0 8) ∧ ( (Is 194 (h.2.2 x0 6) 1) ∧ ( C_X1_stands l g h (h.2.2 x0 6) (fun r5 h4 => ( ((r5 = 0 → (C_X9_refused l g h4 x0 6 (fun r9 h8 => ( Q r9 h8)))) ∧ (¬ (r5 = 0) → ((Is 194 (h4.2.2 x0 6) 1) ∧ ( C_X1_kindsMany l g h4 (h4.2.2 x0 6) (fun r13 h12 => ( C_X9_granted l g h12 x0 r13 (fun r16 h15 => ( Q r16 h15))))))))))))) : L_X9_least_0 l g h x0  Q := by
  obtain ⟨i1, hb⟩ := hb
  refine wp_aload_n 0 dX9_least_0 rfl rfl ?_
  obtain ⟨i2, hb⟩ := hb
  refine wp_getR dX9_least_1 fl_X9_44 i1 (i2.ne (by decide)) ?_
  refine wp_callVN (as := []) dX9_least_4 cb_X1_stands lk_X9_202 im_X1_stands se_X1_stands rfl (Nat.le_of_ble_eq_true rfl) ⟨by decide, by decide⟩ ⟨Nat.le_refl _, Nat.le_refl _, Nat.le_refl _⟩ i2 rfl (by decide) hb (fun r0 h4 hb => ?_)
  obtain ⟨r5, rfl, hb⟩ := hb
  refine wp_if_eq (tgt := 24) dX9_least_7 (by decide) (fun c6 => ?_) (fun c6 => ?_)
  · have hb := hb.1 c6
    refine wp_aload_n 0 dX9_least_24 rfl rfl ?_
    refine wp_bipush (v := 6) dX9_least_25 (by decide) ?_
    refine wp_callV (as := [.int 6]) dX9_least_27 cb_X9_refused lk_X9_76 im_X9_refused se_X9_refused rfl (Nat.le_of_ble_eq_true rfl) ⟨by decide, by decide⟩ ⟨Nat.le_refl _, Nat.le_refl _, Nat.le_refl _⟩ i1 rfl (by decide) hb (fun r0 h8 hb => ?_)
    obtain ⟨r9, rfl, hb⟩ := hb
    exact wp_iret rfl dX9_least_30 ⟨_, rfl, hb⟩
  · have hb := hb.2 c6
    refine wp_aload_n 0 dX9_least_10 rfl rfl ?_
    refine wp_aload_n 0 dX9_least_11 rfl rfl ?_
    obtain ⟨i10, hb⟩ := hb
    refine wp_getR dX9_least_12 fl_X9_44 i1 (i10.ne (by decide)) ?_
    refine wp_callVN (as := []) dX9_least_15 cb_X1_kindsMany lk_X9_229 im_X1_kindsMany se_X1_kindsMany rfl (Nat.le_of_ble_eq_true rfl) ⟨by decide, by decide⟩ ⟨Nat.le_refl _, Nat.le_refl _, Nat.le_refl _⟩ i10 rfl (by decide) hb (fun r0 h12 hb => ?_)
    obtain ⟨r13, rfl, hb⟩ := hb
    refine wp_callV (as := [.int r13]) dX9_least_18 cb_X9_granted lk_X9_97 im_X9_granted se_X9_granted rfl (Nat.le_of_ble_eq_true rfl) ⟨by decide, by decide⟩ ⟨Nat.le_refl _, Nat.le_refl _, Nat.le_refl _⟩ i1 rfl (by decide) hb (fun r0 h15 hb => ?_)
    obtain ⟨r16, rfl, hb⟩ := hb
    refine wp_goto (tgt := 30) dX9_least_21 (by decide) ?_
    exact wp_iret rfl dX9_least_30 ⟨_, rfl, hb⟩
theorem c_X9_least {l : Launch} {g : AG} {h : AH} {x0 : Nat}  {Q : Int32 → AH → Prop} (hb : L_X9_least_0 l g h x0  Q) : C_X9_least l g h x0  Q := ax_met rfl (Nat.le_of_ble_eq_true rfl) hb
def C_X1_viewsMany (l : Launch) (g : AG) (h : AH) (x0 : Nat)  (Q : Int32 → AH → Prop) : Prop := Ct l g mX1_viewsMany 3 74 194 194 h [.ref x0] (ax_QI Q)
def L_X1_viewsMany_0 (l : Launch) (g : AG) (h : AH) (x0 : Nat)  (Q : Int32 → AH → Prop) : Prop := Wp l g mX1_viewsMany 3 74 194 194 194 0 [(0, .ref x0)] [] h (FM g 194 194 (ax_QI Q))
def L_X1_viewsMany_9 (l : Launch) (g : AG) (h : AH) (x0 : Nat) (x1 : Int32)  (Q : Int32 → AH → Prop) : Prop := Wp l g mX1_viewsMany 3 74 194 194 194 9 [(0, .ref x0), (1, .int x1)] [] h (FM g 194 194 (ax_QI Q))
set_option maxRecDepth 100000 in
set_option maxHeartbeats 4000000 in
theorem s_X1_viewsMany_0 {l : Launch} {g : AG} {h : AH} {x0 : Nat}  {Q : Int32 → AH → Prop} (hb : (Is 194 x0 1) ∧ ( (Is 194 (h.2.2 x0 4) 5) ∧ ( C_X6_clear l g h (h.2.2 x0 4) (fun h4 => ( L_X1_viewsMany_9 l g h4 x0 0  Q))))) : L_X1_viewsMany_0 l g h x0  Q := by
  obtain ⟨i1, hb⟩ := hb
  refine wp_aload_n 0 dX1_viewsMany_0 rfl rfl ?_
  obtain ⟨i2, hb⟩ := hb
  refine wp_getR dX1_viewsMany_1 fl_X1_26 i1 (i2.ne (by decide)) ?_
  refine wp_callVN (as := []) dX1_viewsMany_4 cb_X6_clear lk_X1_56 im_X6_clear se_X6_clear rfl (Nat.le_of_ble_eq_true rfl) ⟨by decide, by decide⟩ ⟨Nat.le_refl _, Nat.le_refl _, Nat.le_refl _⟩ i2 rfl (by decide) hb (fun r0 h4 hb => ?_)
  obtain ⟨rfl, hb⟩ := hb
  refine wp_iconst (v := 0) dX1_viewsMany_7 (by decide) ?_
  refine wp_istore_n (lv2 := [(1, .int 0), (0, .ref x0)]) dX1_viewsMany_8 rfl (by decide) rfl ?_
  exact wp_sub [1, 0] rfl hb
set_option maxRecDepth 100000 in
set_option maxHeartbeats 4000000 in
theorem s_X1_viewsMany_9 {l : Launch} {g : AG} {h : AH} {x0 : Nat} {x1 : Int32}  {Q : Int32 → AH → Prop} (hb : (Is 194 x0 1) ∧ ( (Is 194 (h.2.2 x0 2) 5) ∧ ( ((h.1 (h.2.2 x0 2) 0 ≤ x1 → ((Is 194 (h.2.2 x0 4) 5) ∧ ( Q (h.1 (h.2.2 x0 4) 0) h))) ∧ (¬ (h.1 (h.2.2 x0 2) 0 ≤ x1) → ((Is 194 (h.2.2 x0 4) 5) ∧ ( (Is 194 (h.2.2 x0 1) 0) ∧ ( (Is 194 (h.2.2 x0 2) 5) ∧ ( (Is 194 (h.2.2 (h.2.2 x0 2) 1) 21) ∧ ( (vp_in x1 (ax_s (h.2.2 (h.2.2 x0 2) 1)).2) ∧ ( C_X0_viewOf l g h (h.2.2 x0 1) (h.2.1 (h.2.2 (h.2.2 x0 2) 1) x1.toNatClampNeg) (fun r16 h15 => ( C_X6_meet l g h15 (h.2.2 x0 4) r16 0 (-1) (-1) (fun r19 h18 => ( ∀ v20 : Int32, v20 = x1 + (1) → ( L_X1_viewsMany_9 l g h18 x0 v20  Q)))))))))))))))) : L_X1_viewsMany_9 l g h x0 x1  Q := by
  refine wp_iload_n 1 dX1_viewsMany_9 rfl rfl ?_
  obtain ⟨i5, hb⟩ := hb
  refine wp_aload_n 0 dX1_viewsMany_10 rfl rfl ?_
  obtain ⟨i6, hb⟩ := hb
  refine wp_getR dX1_viewsMany_11 fl_X1_18 i5 (i6.ne (by decide)) ?_
  refine wp_getI dX1_viewsMany_14 fl_X1_50 i6 ?_
  refine wp_icmp_ge (tgt := 53) dX1_viewsMany_17 (by decide) (fun c7 => ?_) (fun c7 => ?_)
  · have hb := hb.1 c7
    refine wp_aload_n 0 dX1_viewsMany_53 rfl rfl ?_
    obtain ⟨i8, hb⟩ := hb
    refine wp_getR dX1_viewsMany_54 fl_X1_26 i5 (i8.ne (by decide)) ?_
    refine wp_getI dX1_viewsMany_57 fl_X1_50 i8 ?_
    exact wp_iret rfl dX1_viewsMany_60 ⟨_, rfl, hb⟩
  · have hb := hb.2 c7
    refine wp_aload_n 0 dX1_viewsMany_20 rfl rfl ?_
    obtain ⟨i9, hb⟩ := hb
    refine wp_getR dX1_viewsMany_21 fl_X1_26 i5 (i9.ne (by decide)) ?_
    refine wp_aload_n 0 dX1_viewsMany_24 rfl rfl ?_
    obtain ⟨i10, hb⟩ := hb
    refine wp_getR dX1_viewsMany_25 fl_X1_42 i5 (i10.ne (by decide)) ?_
    refine wp_aload_n 0 dX1_viewsMany_28 rfl rfl ?_
    obtain ⟨i11, hb⟩ := hb
    refine wp_getR dX1_viewsMany_29 fl_X1_18 i5 (i11.ne (by decide)) ?_
    obtain ⟨i12, hb⟩ := hb
    refine wp_getR dX1_viewsMany_32 fl_X1_73 i11 (i12.ne (by decide)) ?_
    refine wp_iload_n 1 dX1_viewsMany_35 rfl rfl ?_
    obtain ⟨b13, hb⟩ := hb
    refine wp_laload dX1_viewsMany_36 i12 b13 ?_
    refine wp_callVN (as := [.long (h.2.1 (h.2.2 (h.2.2 x0 2) 1) x1.toNatClampNeg)]) dX1_viewsMany_37 cb_X0_viewOf lk_X1_124 im_X0_viewOf se_X0_viewOf rfl (Nat.le_of_ble_eq_true rfl) ⟨by decide, by decide⟩ ⟨Nat.le_refl _, Nat.le_refl _, Nat.le_refl _⟩ i10 rfl (by decide) hb (fun r0 h15 hb => ?_)
    obtain ⟨r16, rfl, hb⟩ := hb
    refine wp_lconst (v := 0) dX1_viewsMany_40 (by decide) ?_
    refine wp_iconst (v := (-1)) dX1_viewsMany_41 (by decide) ?_
    refine wp_iconst (v := (-1)) dX1_viewsMany_42 (by decide) ?_
    refine wp_callVN (as := [.long r16, .long 0, .int (-1), .int (-1)]) dX1_viewsMany_43 cb_X6_meet lk_X1_65 im_X6_meet se_X6_meet rfl (Nat.le_of_ble_eq_true rfl) ⟨by decide, by decide⟩ ⟨Nat.le_refl _, Nat.le_refl _, Nat.le_refl _⟩ i9 rfl (by decide) hb (fun r0 h18 hb => ?_)
    obtain ⟨r19, rfl, hb⟩ := hb
    refine wp_pop dX1_viewsMany_46 rfl ?_
    obtain ⟨v20, e21⟩ : ∃ y : Int32, y = x1 + (1) := ⟨_, rfl⟩
    have hb := hb v20 e21
    refine wp_iinc (v := v20) (lv2 := [(1, .int v20), (0, .ref x0)]) 1 dX1_viewsMany_47 rfl (by rw [e21]; rfl) (by decide) rfl ?_
    refine wp_goto (tgt := 9) dX1_viewsMany_50 (by decide) ?_
    exact wp_sub [1, 0] rfl hb
theorem c_X1_viewsMany {l : Launch} {g : AG} {h : AH} {x0 : Nat}  {Q : Int32 → AH → Prop} (hb : L_X1_viewsMany_0 l g h x0  Q) : C_X1_viewsMany l g h x0  Q := ax_met rfl (Nat.le_of_ble_eq_true rfl) hb
def C_X9_views (l : Launch) (g : AG) (h : AH) (x0 : Nat)  (Q : Int32 → AH → Prop) : Prop := Ct l g mX9_views 4 95 194 194 h [.ref x0] (ax_QI Q)
def L_X9_views_0 (l : Launch) (g : AG) (h : AH) (x0 : Nat)  (Q : Int32 → AH → Prop) : Prop := Wp l g mX9_views 4 95 194 194 194 0 [(0, .ref x0)] [] h (FM g 194 194 (ax_QI Q))
set_option maxRecDepth 100000 in
set_option maxHeartbeats 4000000 in
theorem s_X9_views_0 {l : Launch} {g : AG} {h : AH} {x0 : Nat}  {Q : Int32 → AH → Prop} (hb : (Is 194 x0 8) ∧ ( (Is 194 (h.2.2 x0 6) 1) ∧ ( C_X1_stands l g h (h.2.2 x0 6) (fun r5 h4 => ( ((r5 = 0 → (C_X9_refused l g h4 x0 6 (fun r9 h8 => ( Q r9 h8)))) ∧ (¬ (r5 = 0) → ((Is 194 (h4.2.2 x0 6) 1) ∧ ( C_X1_viewsMany l g h4 (h4.2.2 x0 6) (fun r13 h12 => ( C_X9_granted l g h12 x0 r13 (fun r16 h15 => ( Q r16 h15))))))))))))) : L_X9_views_0 l g h x0  Q := by
  obtain ⟨i1, hb⟩ := hb
  refine wp_aload_n 0 dX9_views_0 rfl rfl ?_
  obtain ⟨i2, hb⟩ := hb
  refine wp_getR dX9_views_1 fl_X9_44 i1 (i2.ne (by decide)) ?_
  refine wp_callVN (as := []) dX9_views_4 cb_X1_stands lk_X9_202 im_X1_stands se_X1_stands rfl (Nat.le_of_ble_eq_true rfl) ⟨by decide, by decide⟩ ⟨Nat.le_refl _, Nat.le_refl _, Nat.le_refl _⟩ i2 rfl (by decide) hb (fun r0 h4 hb => ?_)
  obtain ⟨r5, rfl, hb⟩ := hb
  refine wp_if_eq (tgt := 24) dX9_views_7 (by decide) (fun c6 => ?_) (fun c6 => ?_)
  · have hb := hb.1 c6
    refine wp_aload_n 0 dX9_views_24 rfl rfl ?_
    refine wp_bipush (v := 6) dX9_views_25 (by decide) ?_
    refine wp_callV (as := [.int 6]) dX9_views_27 cb_X9_refused lk_X9_76 im_X9_refused se_X9_refused rfl (Nat.le_of_ble_eq_true rfl) ⟨by decide, by decide⟩ ⟨Nat.le_refl _, Nat.le_refl _, Nat.le_refl _⟩ i1 rfl (by decide) hb (fun r0 h8 hb => ?_)
    obtain ⟨r9, rfl, hb⟩ := hb
    exact wp_iret rfl dX9_views_30 ⟨_, rfl, hb⟩
  · have hb := hb.2 c6
    refine wp_aload_n 0 dX9_views_10 rfl rfl ?_
    refine wp_aload_n 0 dX9_views_11 rfl rfl ?_
    obtain ⟨i10, hb⟩ := hb
    refine wp_getR dX9_views_12 fl_X9_44 i1 (i10.ne (by decide)) ?_
    refine wp_callVN (as := []) dX9_views_15 cb_X1_viewsMany lk_X9_232 im_X1_viewsMany se_X1_viewsMany rfl (Nat.le_of_ble_eq_true rfl) ⟨by decide, by decide⟩ ⟨Nat.le_refl _, Nat.le_refl _, Nat.le_refl _⟩ i10 rfl (by decide) hb (fun r0 h12 hb => ?_)
    obtain ⟨r13, rfl, hb⟩ := hb
    refine wp_callV (as := [.int r13]) dX9_views_18 cb_X9_granted lk_X9_97 im_X9_granted se_X9_granted rfl (Nat.le_of_ble_eq_true rfl) ⟨by decide, by decide⟩ ⟨Nat.le_refl _, Nat.le_refl _, Nat.le_refl _⟩ i1 rfl (by decide) hb (fun r0 h15 hb => ?_)
    obtain ⟨r16, rfl, hb⟩ := hb
    refine wp_goto (tgt := 30) dX9_views_21 (by decide) ?_
    exact wp_iret rfl dX9_views_30 ⟨_, rfl, hb⟩
theorem c_X9_views {l : Launch} {g : AG} {h : AH} {x0 : Nat}  {Q : Int32 → AH → Prop} (hb : L_X9_views_0 l g h x0  Q) : C_X9_views l g h x0  Q := ax_met rfl (Nat.le_of_ble_eq_true rfl) hb
def C_X1_deepest (l : Launch) (g : AG) (h : AH) (x0 : Nat)  (Q : Int32 → AH → Prop) : Prop := Ct l g mX1_deepest 1 21 194 194 h [.ref x0] (ax_QI Q)
def L_X1_deepest_0 (l : Launch) (g : AG) (h : AH) (x0 : Nat)  (Q : Int32 → AH → Prop) : Prop := Wp l g mX1_deepest 1 21 194 194 194 0 [(0, .ref x0)] [] h (FM g 194 194 (ax_QI Q))
def L_X1_deepest_4 (l : Launch) (g : AG) (h : AH) (x0 : Nat) (x1 : Int32) (x2 : Int32)  (Q : Int32 → AH → Prop) : Prop := Wp l g mX1_deepest 1 21 194 194 194 4 [(0, .ref x0), (1, .int x1), (2, .int x2)] [] h (FM g 194 194 (ax_QI Q))
set_option maxRecDepth 100000 in
set_option maxHeartbeats 4000000 in
theorem s_X1_deepest_0 {l : Launch} {g : AG} {h : AH} {x0 : Nat}  {Q : Int32 → AH → Prop} (hb : L_X1_deepest_4 l g h x0 0 0  Q) : L_X1_deepest_0 l g h x0  Q := by
  refine wp_iconst (v := 0) dX1_deepest_0 (by decide) ?_
  refine wp_istore_n (lv2 := [(1, .int 0), (0, .ref x0)]) dX1_deepest_1 rfl (by decide) rfl ?_
  refine wp_iconst (v := 0) dX1_deepest_2 (by decide) ?_
  refine wp_istore_n (lv2 := [(2, .int 0), (1, .int 0), (0, .ref x0)]) dX1_deepest_3 rfl (by decide) rfl ?_
  exact wp_sub [2, 1, 0] rfl hb
set_option maxRecDepth 100000 in
set_option maxHeartbeats 4000000 in
theorem s_X1_deepest_4 {l : Launch} {g : AG} {h : AH} {x0 : Nat} {x1 : Int32} {x2 : Int32}  {Q : Int32 → AH → Prop} (hb : (Is 194 x0 1) ∧ ( (Is 194 (h.2.2 x0 2) 5) ∧ ( ((h.1 (h.2.2 x0 2) 0 ≤ x2 → (Q x1 h)) ∧ (¬ (h.1 (h.2.2 x0 2) 0 ≤ x2) → ((Is 194 (h.2.2 x0 2) 5) ∧ ( (Is 194 (h.2.2 (h.2.2 x0 2) 5) 20) ∧ ( (vp_in x2 (ax_s (h.2.2 (h.2.2 x0 2) 5)).2) ∧ ( ∀ v7 : Int32, v7 = (if x1 < h.1 (h.2.2 (h.2.2 x0 2) 5) x2.toNatClampNeg then h.1 (h.2.2 (h.2.2 x0 2) 5) x2.toNatClampNeg else x1) → ( ∀ v9 : Int32, v9 = x2 + (1) → ( L_X1_deepest_4 l g h x0 v7 v9  Q))))))))))) : L_X1_deepest_4 l g h x0 x1 x2  Q := by
  refine wp_iload_n 2 dX1_deepest_4 rfl rfl ?_
  obtain ⟨i1, hb⟩ := hb
  refine wp_aload_n 0 dX1_deepest_5 rfl rfl ?_
  obtain ⟨i2, hb⟩ := hb
  refine wp_getR dX1_deepest_6 fl_X1_18 i1 (i2.ne (by decide)) ?_
  refine wp_getI dX1_deepest_9 fl_X1_50 i2 ?_
  refine wp_icmp_ge (tgt := 35) dX1_deepest_12 (by decide) (fun c3 => ?_) (fun c3 => ?_)
  · have hb := hb.1 c3
    refine wp_iload_n 1 dX1_deepest_35 rfl rfl ?_
    exact wp_iret rfl dX1_deepest_36 ⟨_, rfl, hb⟩
  · have hb := hb.2 c3
    refine wp_iload_n 1 dX1_deepest_15 rfl rfl ?_
    refine wp_aload_n 0 dX1_deepest_16 rfl rfl ?_
    obtain ⟨i4, hb⟩ := hb
    refine wp_getR dX1_deepest_17 fl_X1_18 i1 (i4.ne (by decide)) ?_
    obtain ⟨i5, hb⟩ := hb
    refine wp_getR dX1_deepest_20 fl_X1_89 i4 (i5.ne (by decide)) ?_
    refine wp_iload_n 2 dX1_deepest_23 rfl rfl ?_
    obtain ⟨b6, hb⟩ := hb
    refine wp_iaload dX1_deepest_24 i5 b6 ?_
    refine wp_mmax dX1_deepest_25 lk_X1_92 (Nat.le_of_ble_eq_true rfl) (by decide) (by decide) (by decide) ?_
    refine wp_topi (fun v7 e8 => ?_)
    have hb := hb v7 e8
    refine wp_istore_n (lv2 := [(1, .int v7), (0, .ref x0), (2, .int x2)]) dX1_deepest_28 rfl (by decide) rfl ?_
    obtain ⟨v9, e10⟩ : ∃ y : Int32, y = x2 + (1) := ⟨_, rfl⟩
    have hb := hb v9 e10
    refine wp_iinc (v := v9) (lv2 := [(2, .int v9), (1, .int v7), (0, .ref x0)]) 2 dX1_deepest_29 rfl (by rw [e10]; rfl) (by decide) rfl ?_
    refine wp_goto (tgt := 4) dX1_deepest_32 (by decide) ?_
    exact wp_sub [2, 1, 0] rfl hb
theorem c_X1_deepest {l : Launch} {g : AG} {h : AH} {x0 : Nat}  {Q : Int32 → AH → Prop} (hb : L_X1_deepest_0 l g h x0  Q) : C_X1_deepest l g h x0  Q := ax_met rfl (Nat.le_of_ble_eq_true rfl) hb
