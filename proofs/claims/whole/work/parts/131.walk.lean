def C_X9_pressedAt (l : Launch) (g : AG) (h : AH) (x0 : Nat) (x1 : Int32)  (Q : Int32 → AH → Prop) : Prop := Ct l g mX9_pressedAt 1 22 194 194 h [.ref x0, .int x1] (ax_QI Q)
def L_X9_pressedAt_0 (l : Launch) (g : AG) (h : AH) (x0 : Nat) (x1 : Int32)  (Q : Int32 → AH → Prop) : Prop := Wp l g mX9_pressedAt 1 22 194 194 194 0 [(0, .ref x0), (1, .int x1)] [] h (FM g 194 194 (ax_QI Q))
set_option maxRecDepth 100000 in
set_option maxHeartbeats 4000000 in
theorem s_X9_pressedAt_0 {l : Launch} {g : AG} {h : AH} {x0 : Nat} {x1 : Int32}  {Q : Int32 → AH → Prop} (hb : (Is 194 x0 8) ∧ ( (Is 194 (h.2.2 x0 6) 1) ∧ ( C_X1_stands l g h (h.2.2 x0 6) (fun r5 h4 => ( ((¬ r5 = 0 → (((x1 < 0 → (C_X9_refused l g h4 x0 1 (fun r10 h9 => ( Q r10 h9)))) ∧ (¬ (x1 < 0) → ((Is 194 (h4.2.2 x0 6) 1) ∧ ( (Is 194 (h4.2.2 (h4.2.2 x0 6) 1) 0) ∧ ( ((x1 < h4.1 (h4.2.2 (h4.2.2 x0 6) 1) 1 → ((Is 194 (h4.2.2 x0 6) 1) ∧ ( C_X1_firstOfPressed l g h4 (h4.2.2 x0 6) x1 (fun r17 h16 => ( C_X9_granted l g h16 x0 r17 (fun r20 h19 => ( Q r20 h19))))))) ∧ (¬ (x1 < h4.1 (h4.2.2 (h4.2.2 x0 6) 1) 1) → (C_X9_refused l g h4 x0 1 (fun r23 h22 => ( Q r23 h22)))))))))))) ∧ (r5 = 0 → (C_X9_refused l g h4 x0 6 (fun r26 h25 => ( Q r26 h25)))))))))) : L_X9_pressedAt_0 l g h x0 x1  Q := by
  obtain ⟨i1, hb⟩ := hb
  refine wp_aload_n 0 dX9_pressedAt_0 rfl rfl ?_
  obtain ⟨i2, hb⟩ := hb
  refine wp_getR dX9_pressedAt_1 fl_X9_44 i1 (i2.ne (by decide)) ?_
  refine wp_callVN (as := []) dX9_pressedAt_4 cb_X1_stands lk_X9_202 im_X1_stands se_X1_stands rfl (Nat.le_of_ble_eq_true rfl) ⟨by decide, by decide⟩ ⟨Nat.le_refl _, Nat.le_refl _, Nat.le_refl _⟩ i2 rfl (by decide) hb (fun r0 h4 hb => ?_)
  obtain ⟨r5, rfl, hb⟩ := hb
  refine wp_if_ne (tgt := 17) dX9_pressedAt_7 (by decide) (fun c6 => ?_) (fun c6 => ?_)
  · have hb := hb.1 c6
    refine wp_iload_n 1 dX9_pressedAt_17 rfl rfl ?_
    refine wp_if_lt (tgt := 35) dX9_pressedAt_18 (by decide) (fun c7 => ?_) (fun c7 => ?_)
    · have hb := hb.1 c7
      refine wp_aload_n 0 dX9_pressedAt_35 rfl rfl ?_
      refine wp_iconst (v := 1) dX9_pressedAt_36 (by decide) ?_
      refine wp_callV (as := [.int 1]) dX9_pressedAt_37 cb_X9_refused lk_X9_76 im_X9_refused se_X9_refused rfl (Nat.le_of_ble_eq_true rfl) ⟨by decide, by decide⟩ ⟨Nat.le_refl _, Nat.le_refl _, Nat.le_refl _⟩ i1 rfl (by decide) hb (fun r0 h9 hb => ?_)
      obtain ⟨r10, rfl, hb⟩ := hb
      exact wp_iret rfl dX9_pressedAt_40 ⟨_, rfl, hb⟩
    · have hb := hb.2 c7
      refine wp_iload_n 1 dX9_pressedAt_21 rfl rfl ?_
      refine wp_aload_n 0 dX9_pressedAt_22 rfl rfl ?_
      obtain ⟨i11, hb⟩ := hb
      refine wp_getR dX9_pressedAt_23 fl_X9_44 i1 (i11.ne (by decide)) ?_
      obtain ⟨i12, hb⟩ := hb
      refine wp_getR dX9_pressedAt_26 fl_X9_213 i11 (i12.ne (by decide)) ?_
      refine wp_getI dX9_pressedAt_29 fl_X9_110 i12 ?_
      refine wp_icmp_lt (tgt := 41) dX9_pressedAt_32 (by decide) (fun c13 => ?_) (fun c13 => ?_)
      · have hb := hb.1 c13
        refine wp_aload_n 0 dX9_pressedAt_41 rfl rfl ?_
        refine wp_aload_n 0 dX9_pressedAt_42 rfl rfl ?_
        obtain ⟨i14, hb⟩ := hb
        refine wp_getR dX9_pressedAt_43 fl_X9_44 i1 (i14.ne (by decide)) ?_
        refine wp_iload_n 1 dX9_pressedAt_46 rfl rfl ?_
        refine wp_callVN (as := [.int x1]) dX9_pressedAt_47 cb_X1_firstOfPressed lk_X9_216 im_X1_firstOfPressed se_X1_firstOfPressed rfl (Nat.le_of_ble_eq_true rfl) ⟨by decide, by decide⟩ ⟨Nat.le_refl _, Nat.le_refl _, Nat.le_refl _⟩ i14 rfl (by decide) hb (fun r0 h16 hb => ?_)
        obtain ⟨r17, rfl, hb⟩ := hb
        refine wp_callV (as := [.int r17]) dX9_pressedAt_50 cb_X9_granted lk_X9_97 im_X9_granted se_X9_granted rfl (Nat.le_of_ble_eq_true rfl) ⟨by decide, by decide⟩ ⟨Nat.le_refl _, Nat.le_refl _, Nat.le_refl _⟩ i1 rfl (by decide) hb (fun r0 h19 hb => ?_)
        obtain ⟨r20, rfl, hb⟩ := hb
        exact wp_iret rfl dX9_pressedAt_53 ⟨_, rfl, hb⟩
      · have hb := hb.2 c13
        refine wp_aload_n 0 dX9_pressedAt_35 rfl rfl ?_
        refine wp_iconst (v := 1) dX9_pressedAt_36 (by decide) ?_
        refine wp_callV (as := [.int 1]) dX9_pressedAt_37 cb_X9_refused lk_X9_76 im_X9_refused se_X9_refused rfl (Nat.le_of_ble_eq_true rfl) ⟨by decide, by decide⟩ ⟨Nat.le_refl _, Nat.le_refl _, Nat.le_refl _⟩ i1 rfl (by decide) hb (fun r0 h22 hb => ?_)
        obtain ⟨r23, rfl, hb⟩ := hb
        exact wp_iret rfl dX9_pressedAt_40 ⟨_, rfl, hb⟩
  · have hb := hb.2 c6
    refine wp_aload_n 0 dX9_pressedAt_10 rfl rfl ?_
    refine wp_bipush (v := 6) dX9_pressedAt_11 (by decide) ?_
    refine wp_callV (as := [.int 6]) dX9_pressedAt_13 cb_X9_refused lk_X9_76 im_X9_refused se_X9_refused rfl (Nat.le_of_ble_eq_true rfl) ⟨by decide, by decide⟩ ⟨Nat.le_refl _, Nat.le_refl _, Nat.le_refl _⟩ i1 rfl (by decide) hb (fun r0 h25 hb => ?_)
    obtain ⟨r26, rfl, hb⟩ := hb
    exact wp_iret rfl dX9_pressedAt_16 ⟨_, rfl, hb⟩
theorem c_X9_pressedAt {l : Launch} {g : AG} {h : AH} {x0 : Nat} {x1 : Int32}  {Q : Int32 → AH → Prop} (hb : L_X9_pressedAt_0 l g h x0 x1  Q) : C_X9_pressedAt l g h x0 x1  Q := ax_met rfl (Nat.le_of_ble_eq_true rfl) hb
def C_X1_neverMany (l : Launch) (g : AG) (h : AH) (x0 : Nat)  (Q : Int32 → AH → Prop) : Prop := Ct l g mX1_neverMany 1 22 194 194 h [.ref x0] (ax_QI Q)
def L_X1_neverMany_0 (l : Launch) (g : AG) (h : AH) (x0 : Nat)  (Q : Int32 → AH → Prop) : Prop := Wp l g mX1_neverMany 1 22 194 194 194 0 [(0, .ref x0)] [] h (FM g 194 194 (ax_QI Q))
def L_X1_neverMany_4 (l : Launch) (g : AG) (h : AH) (x0 : Nat) (x1 : Int32) (x2 : Int32)  (Q : Int32 → AH → Prop) : Prop := Wp l g mX1_neverMany 1 22 194 194 194 4 [(0, .ref x0), (1, .int x1), (2, .int x2)] [] h (FM g 194 194 (ax_QI Q))
set_option maxRecDepth 100000 in
set_option maxHeartbeats 4000000 in
theorem s_X1_neverMany_0 {l : Launch} {g : AG} {h : AH} {x0 : Nat}  {Q : Int32 → AH → Prop} (hb : L_X1_neverMany_4 l g h x0 0 0  Q) : L_X1_neverMany_0 l g h x0  Q := by
  refine wp_iconst (v := 0) dX1_neverMany_0 (by decide) ?_
  refine wp_istore_n (lv2 := [(1, .int 0), (0, .ref x0)]) dX1_neverMany_1 rfl (by decide) rfl ?_
  refine wp_iconst (v := 0) dX1_neverMany_2 (by decide) ?_
  refine wp_istore_n (lv2 := [(2, .int 0), (1, .int 0), (0, .ref x0)]) dX1_neverMany_3 rfl (by decide) rfl ?_
  exact wp_sub [2, 1, 0] rfl hb
set_option maxRecDepth 100000 in
set_option maxHeartbeats 4000000 in
theorem s_X1_neverMany_4 {l : Launch} {g : AG} {h : AH} {x0 : Nat} {x1 : Int32} {x2 : Int32}  {Q : Int32 → AH → Prop} (hb : (Is 194 x0 1) ∧ ( (Is 194 (h.2.2 x0 1) 0) ∧ ( ((h.1 (h.2.2 x0 1) 1 ≤ x2 → (Q x1 h)) ∧ (¬ (h.1 (h.2.2 x0 1) 1 ≤ x2) → (C_X1_firstOfPressed l g h x0 x2 (fun r6 h5 => ( ((¬ r6 = (-2) → (∀ v8 : Int32, v8 = x2 + (1) → ( L_X1_neverMany_4 l g h5 x0 x1 v8  Q))) ∧ (r6 = (-2) → (∀ v10 : Int32, v10 = x1 + (1) → ( ∀ v12 : Int32, v12 = x2 + (1) → ( L_X1_neverMany_4 l g h5 x0 v10 v12  Q))))))))))))) : L_X1_neverMany_4 l g h x0 x1 x2  Q := by
  refine wp_iload_n 2 dX1_neverMany_4 rfl rfl ?_
  obtain ⟨i1, hb⟩ := hb
  refine wp_aload_n 0 dX1_neverMany_5 rfl rfl ?_
  obtain ⟨i2, hb⟩ := hb
  refine wp_getR dX1_neverMany_6 fl_X1_42 i1 (i2.ne (by decide)) ?_
  refine wp_getI dX1_neverMany_9 fl_X1_104 i2 ?_
  refine wp_icmp_ge (tgt := 34) dX1_neverMany_12 (by decide) (fun c3 => ?_) (fun c3 => ?_)
  · have hb := hb.1 c3
    refine wp_iload_n 1 dX1_neverMany_34 rfl rfl ?_
    exact wp_iret rfl dX1_neverMany_35 ⟨_, rfl, hb⟩
  · have hb := hb.2 c3
    refine wp_aload_n 0 dX1_neverMany_15 rfl rfl ?_
    refine wp_iload_n 2 dX1_neverMany_16 rfl rfl ?_
    refine wp_callV (as := [.int x2]) dX1_neverMany_17 cb_X1_firstOfPressed lk_X1_107 im_X1_firstOfPressed se_X1_firstOfPressed rfl (Nat.le_of_ble_eq_true rfl) ⟨by decide, by decide⟩ ⟨Nat.le_refl _, Nat.le_refl _, Nat.le_refl _⟩ i1 rfl (by decide) hb (fun r0 h5 hb => ?_)
    obtain ⟨r6, rfl, hb⟩ := hb
    refine wp_bipush (v := (-2)) dX1_neverMany_20 (by decide) ?_
    refine wp_icmp_ne (tgt := 28) dX1_neverMany_22 (by decide) (fun c7 => ?_) (fun c7 => ?_)
    · have hb := hb.1 c7
      obtain ⟨v8, e9⟩ : ∃ y : Int32, y = x2 + (1) := ⟨_, rfl⟩
      have hb := hb v8 e9
      refine wp_iinc (v := v8) (lv2 := [(2, .int v8), (0, .ref x0), (1, .int x1)]) 2 dX1_neverMany_28 rfl (by rw [e9]; rfl) (by decide) rfl ?_
      refine wp_goto (tgt := 4) dX1_neverMany_31 (by decide) ?_
      exact wp_sub [1, 2, 0] rfl hb
    · have hb := hb.2 c7
      obtain ⟨v10, e11⟩ : ∃ y : Int32, y = x1 + (1) := ⟨_, rfl⟩
      have hb := hb v10 e11
      refine wp_iinc (v := v10) (lv2 := [(1, .int v10), (0, .ref x0), (2, .int x2)]) 1 dX1_neverMany_25 rfl (by rw [e11]; rfl) (by decide) rfl ?_
      obtain ⟨v12, e13⟩ : ∃ y : Int32, y = x2 + (1) := ⟨_, rfl⟩
      have hb := hb v12 e13
      refine wp_iinc (v := v12) (lv2 := [(2, .int v12), (1, .int v10), (0, .ref x0)]) 2 dX1_neverMany_28 rfl (by rw [e13]; rfl) (by decide) rfl ?_
      refine wp_goto (tgt := 4) dX1_neverMany_31 (by decide) ?_
      exact wp_sub [2, 1, 0] rfl hb
theorem c_X1_neverMany {l : Launch} {g : AG} {h : AH} {x0 : Nat}  {Q : Int32 → AH → Prop} (hb : L_X1_neverMany_0 l g h x0  Q) : C_X1_neverMany l g h x0  Q := ax_met rfl (Nat.le_of_ble_eq_true rfl) hb
def C_X9_never (l : Launch) (g : AG) (h : AH) (x0 : Nat)  (Q : Int32 → AH → Prop) : Prop := Ct l g mX9_never 2 44 194 194 h [.ref x0] (ax_QI Q)
def L_X9_never_0 (l : Launch) (g : AG) (h : AH) (x0 : Nat)  (Q : Int32 → AH → Prop) : Prop := Wp l g mX9_never 2 44 194 194 194 0 [(0, .ref x0)] [] h (FM g 194 194 (ax_QI Q))
set_option maxRecDepth 100000 in
set_option maxHeartbeats 4000000 in
theorem s_X9_never_0 {l : Launch} {g : AG} {h : AH} {x0 : Nat}  {Q : Int32 → AH → Prop} (hb : (Is 194 x0 8) ∧ ( (Is 194 (h.2.2 x0 6) 1) ∧ ( C_X1_stands l g h (h.2.2 x0 6) (fun r5 h4 => ( ((r5 = 0 → (C_X9_refused l g h4 x0 6 (fun r9 h8 => ( Q r9 h8)))) ∧ (¬ (r5 = 0) → ((Is 194 (h4.2.2 x0 6) 1) ∧ ( C_X1_neverMany l g h4 (h4.2.2 x0 6) (fun r13 h12 => ( C_X9_granted l g h12 x0 r13 (fun r16 h15 => ( Q r16 h15))))))))))))) : L_X9_never_0 l g h x0  Q := by
  obtain ⟨i1, hb⟩ := hb
  refine wp_aload_n 0 dX9_never_0 rfl rfl ?_
  obtain ⟨i2, hb⟩ := hb
  refine wp_getR dX9_never_1 fl_X9_44 i1 (i2.ne (by decide)) ?_
  refine wp_callVN (as := []) dX9_never_4 cb_X1_stands lk_X9_202 im_X1_stands se_X1_stands rfl (Nat.le_of_ble_eq_true rfl) ⟨by decide, by decide⟩ ⟨Nat.le_refl _, Nat.le_refl _, Nat.le_refl _⟩ i2 rfl (by decide) hb (fun r0 h4 hb => ?_)
  obtain ⟨r5, rfl, hb⟩ := hb
  refine wp_if_eq (tgt := 24) dX9_never_7 (by decide) (fun c6 => ?_) (fun c6 => ?_)
  · have hb := hb.1 c6
    refine wp_aload_n 0 dX9_never_24 rfl rfl ?_
    refine wp_bipush (v := 6) dX9_never_25 (by decide) ?_
    refine wp_callV (as := [.int 6]) dX9_never_27 cb_X9_refused lk_X9_76 im_X9_refused se_X9_refused rfl (Nat.le_of_ble_eq_true rfl) ⟨by decide, by decide⟩ ⟨Nat.le_refl _, Nat.le_refl _, Nat.le_refl _⟩ i1 rfl (by decide) hb (fun r0 h8 hb => ?_)
    obtain ⟨r9, rfl, hb⟩ := hb
    exact wp_iret rfl dX9_never_30 ⟨_, rfl, hb⟩
  · have hb := hb.2 c6
    refine wp_aload_n 0 dX9_never_10 rfl rfl ?_
    refine wp_aload_n 0 dX9_never_11 rfl rfl ?_
    obtain ⟨i10, hb⟩ := hb
    refine wp_getR dX9_never_12 fl_X9_44 i1 (i10.ne (by decide)) ?_
    refine wp_callVN (as := []) dX9_never_15 cb_X1_neverMany lk_X9_219 im_X1_neverMany se_X1_neverMany rfl (Nat.le_of_ble_eq_true rfl) ⟨by decide, by decide⟩ ⟨Nat.le_refl _, Nat.le_refl _, Nat.le_refl _⟩ i10 rfl (by decide) hb (fun r0 h12 hb => ?_)
    obtain ⟨r13, rfl, hb⟩ := hb
    refine wp_callV (as := [.int r13]) dX9_never_18 cb_X9_granted lk_X9_97 im_X9_granted se_X9_granted rfl (Nat.le_of_ble_eq_true rfl) ⟨by decide, by decide⟩ ⟨Nat.le_refl _, Nat.le_refl _, Nat.le_refl _⟩ i1 rfl (by decide) hb (fun r0 h15 hb => ?_)
    obtain ⟨r16, rfl, hb⟩ := hb
    refine wp_goto (tgt := 30) dX9_never_21 (by decide) ?_
    exact wp_iret rfl dX9_never_30 ⟨_, rfl, hb⟩
theorem c_X9_never {l : Launch} {g : AG} {h : AH} {x0 : Nat}  {Q : Int32 → AH → Prop} (hb : L_X9_never_0 l g h x0  Q) : C_X9_never l g h x0  Q := ax_met rfl (Nat.le_of_ble_eq_true rfl) hb
def C_X1_firstOfValue (l : Launch) (g : AG) (h : AH) (x0 : Nat) (x1 : Int32) (x2 : Int32)  (Q : Int32 → AH → Prop) : Prop := Ct l g mX1_firstOfValue 1 22 194 194 h [.ref x0, .int x1, .int x2] (ax_QI Q)
def L_X1_firstOfValue_0 (l : Launch) (g : AG) (h : AH) (x0 : Nat) (x1 : Int32) (x2 : Int32)  (Q : Int32 → AH → Prop) : Prop := Wp l g mX1_firstOfValue 1 22 194 194 194 0 [(0, .ref x0), (1, .int x1), (2, .int x2)] [] h (FM g 194 194 (ax_QI Q))
def L_X1_firstOfValue_2 (l : Launch) (g : AG) (h : AH) (x0 : Nat) (x1 : Int32) (x2 : Int32) (x3 : Int32)  (Q : Int32 → AH → Prop) : Prop := Wp l g mX1_firstOfValue 1 22 194 194 194 2 [(0, .ref x0), (1, .int x1), (2, .int x2), (3, .int x3)] [] h (FM g 194 194 (ax_QI Q))
set_option maxRecDepth 100000 in
set_option maxHeartbeats 4000000 in
theorem s_X1_firstOfValue_0 {l : Launch} {g : AG} {h : AH} {x0 : Nat} {x1 : Int32} {x2 : Int32}  {Q : Int32 → AH → Prop} (hb : L_X1_firstOfValue_2 l g h x0 x1 x2 0  Q) : L_X1_firstOfValue_0 l g h x0 x1 x2  Q := by
  refine wp_iconst (v := 0) dX1_firstOfValue_0 (by decide) ?_
  refine wp_istore_n (lv2 := [(3, .int 0), (0, .ref x0), (1, .int x1), (2, .int x2)]) dX1_firstOfValue_1 rfl (by decide) rfl ?_
  exact wp_sub [1, 2, 3, 0] rfl hb
set_option maxRecDepth 100000 in
set_option maxHeartbeats 4000000 in
theorem s_X1_firstOfValue_2 {l : Launch} {g : AG} {h : AH} {x0 : Nat} {x1 : Int32} {x2 : Int32} {x3 : Int32}  {Q : Int32 → AH → Prop} (hb : (Is 194 x0 1) ∧ ( (Is 194 (h.2.2 x0 2) 5) ∧ ( ((h.1 (h.2.2 x0 2) 0 ≤ x3 → (Q (-2) h)) ∧ (¬ (h.1 (h.2.2 x0 2) 0 ≤ x3) → ((Is 194 (h.2.2 x0 2) 5) ∧ ( (Is 194 (h.2.2 (h.2.2 x0 2) 1) 21) ∧ ( (vp_in x3 (ax_s (h.2.2 (h.2.2 x0 2) 1)).2) ∧ ( C_X3_valueOf l g h (h.2.1 (h.2.2 (h.2.2 x0 2) 1) x3.toNatClampNeg) x1 (fun r9 h8 => ( ((¬ r9 = x2 → (∀ v11 : Int32, v11 = x3 + (1) → ( L_X1_firstOfValue_2 l g h8 x0 x1 x2 v11  Q))) ∧ (r9 = x2 → (Q x3 h8)))))))))))))) : L_X1_firstOfValue_2 l g h x0 x1 x2 x3  Q := by
  refine wp_iload_n 3 dX1_firstOfValue_2 rfl rfl ?_
  obtain ⟨i1, hb⟩ := hb
  refine wp_aload_n 0 dX1_firstOfValue_3 rfl rfl ?_
  obtain ⟨i2, hb⟩ := hb
  refine wp_getR dX1_firstOfValue_4 fl_X1_18 i1 (i2.ne (by decide)) ?_
  refine wp_getI dX1_firstOfValue_7 fl_X1_50 i2 ?_
  refine wp_icmp_ge (tgt := 38) dX1_firstOfValue_10 (by decide) (fun c3 => ?_) (fun c3 => ?_)
  · have hb := hb.1 c3
    refine wp_bipush (v := (-2)) dX1_firstOfValue_38 (by decide) ?_
    exact wp_iret rfl dX1_firstOfValue_40 ⟨_, rfl, hb⟩
  · have hb := hb.2 c3
    refine wp_aload_n 0 dX1_firstOfValue_13 rfl rfl ?_
    obtain ⟨i4, hb⟩ := hb
    refine wp_getR dX1_firstOfValue_14 fl_X1_18 i1 (i4.ne (by decide)) ?_
    obtain ⟨i5, hb⟩ := hb
    refine wp_getR dX1_firstOfValue_17 fl_X1_73 i4 (i5.ne (by decide)) ?_
    refine wp_iload_n 3 dX1_firstOfValue_20 rfl rfl ?_
    obtain ⟨b6, hb⟩ := hb
    refine wp_laload dX1_firstOfValue_21 i5 b6 ?_
    refine wp_iload_n 1 dX1_firstOfValue_22 rfl rfl ?_
    refine wp_callSN (as := [.long (h.2.1 (h.2.2 (h.2.2 x0 2) 1) x3.toNatClampNeg), .int x1]) dX1_firstOfValue_23 cb_X3_valueOf lk_X1_110 st_X3_valueOf rfl (Nat.le_of_ble_eq_true rfl) ⟨by decide, by decide⟩ ⟨Nat.le_refl _, Nat.le_refl _, Nat.le_refl _⟩ hb (fun r0 h8 hb => ?_)
    obtain ⟨r9, rfl, hb⟩ := hb
    refine wp_iload_n 2 dX1_firstOfValue_26 rfl rfl ?_
    refine wp_icmp_ne (tgt := 32) dX1_firstOfValue_27 (by decide) (fun c10 => ?_) (fun c10 => ?_)
    · have hb := hb.1 c10
      obtain ⟨v11, e12⟩ : ∃ y : Int32, y = x3 + (1) := ⟨_, rfl⟩
      have hb := hb v11 e12
      refine wp_iinc (v := v11) (lv2 := [(3, .int v11), (0, .ref x0), (1, .int x1), (2, .int x2)]) 3 dX1_firstOfValue_32 rfl (by rw [e12]; rfl) (by decide) rfl ?_
      refine wp_goto (tgt := 2) dX1_firstOfValue_35 (by decide) ?_
      exact wp_sub [1, 2, 3, 0] rfl hb
    · have hb := hb.2 c10
      refine wp_iload_n 3 dX1_firstOfValue_30 rfl rfl ?_
      exact wp_iret rfl dX1_firstOfValue_31 ⟨_, rfl, hb⟩
theorem c_X1_firstOfValue {l : Launch} {g : AG} {h : AH} {x0 : Nat} {x1 : Int32} {x2 : Int32}  {Q : Int32 → AH → Prop} (hb : L_X1_firstOfValue_0 l g h x0 x1 x2  Q) : C_X1_firstOfValue l g h x0 x1 x2  Q := ax_met rfl (Nat.le_of_ble_eq_true rfl) hb
