def C_X1_stands (l : Launch) (g : AG) (h : AH) (x0 : Nat)  (Q : Int32 → AH → Prop) : Prop := Ct l g mX1_stands 0 0 194 194 h [.ref x0] (ax_QI Q)
def L_X1_stands_0 (l : Launch) (g : AG) (h : AH) (x0 : Nat)  (Q : Int32 → AH → Prop) : Prop := Wp l g mX1_stands 0 0 194 194 194 0 [(0, .ref x0)] [] h (FM g 194 194 (ax_QI Q))
set_option maxRecDepth 100000 in
set_option maxHeartbeats 4000000 in
theorem s_X1_stands_0 {l : Launch} {g : AG} {h : AH} {x0 : Nat}  {Q : Int32 → AH → Prop} (hb : (Is 194 x0 1) ∧ ( ((h.1 x0 0 = (-1) → (Q 0 h)) ∧ (¬ (h.1 x0 0 = (-1)) → (Q 1 h))))) : L_X1_stands_0 l g h x0  Q := by
  obtain ⟨i1, hb⟩ := hb
  refine wp_aload_n 0 dX1_stands_0 rfl rfl ?_
  refine wp_getI dX1_stands_1 fl_X1_9 i1 ?_
  refine wp_iconst (v := (-1)) dX1_stands_4 (by decide) ?_
  refine wp_icmp_eq (tgt := 12) dX1_stands_5 (by decide) (fun c2 => ?_) (fun c2 => ?_)
  · have hb := hb.1 c2
    refine wp_iconst (v := 0) dX1_stands_12 (by decide) ?_
    exact wp_zret rfl dX1_stands_13 (Or.inl rfl) ⟨_, rfl, hb⟩
  · have hb := hb.2 c2
    refine wp_iconst (v := 1) dX1_stands_8 (by decide) ?_
    refine wp_goto (tgt := 13) dX1_stands_9 (by decide) ?_
    exact wp_zret rfl dX1_stands_13 (Or.inr rfl) ⟨_, rfl, hb⟩
theorem c_X1_stands {l : Launch} {g : AG} {h : AH} {x0 : Nat}  {Q : Int32 → AH → Prop} (hb : L_X1_stands_0 l g h x0  Q) : C_X1_stands l g h x0  Q := ax_met rfl (Nat.le_of_ble_eq_true rfl) hb
def C_X1_many (l : Launch) (g : AG) (h : AH) (x0 : Nat)  (Q : Int32 → AH → Prop) : Prop := Ct l g mX1_many 1 20 194 194 h [.ref x0] (ax_QI Q)
def L_X1_many_0 (l : Launch) (g : AG) (h : AH) (x0 : Nat)  (Q : Int32 → AH → Prop) : Prop := Wp l g mX1_many 1 20 194 194 194 0 [(0, .ref x0)] [] h (FM g 194 194 (ax_QI Q))
set_option maxRecDepth 100000 in
set_option maxHeartbeats 4000000 in
theorem s_X1_many_0 {l : Launch} {g : AG} {h : AH} {x0 : Nat}  {Q : Int32 → AH → Prop} (hb : (Is 194 x0 1) ∧ ( C_X1_stands l g h x0 (fun r4 h3 => ( ((r4 = 0 → (Q 0 h3)) ∧ (¬ (r4 = 0) → ((Is 194 (h3.2.2 x0 2) 5) ∧ ( Q (h3.1 (h3.2.2 x0 2) 0) h3)))))))) : L_X1_many_0 l g h x0  Q := by
  obtain ⟨i1, hb⟩ := hb
  refine wp_aload_n 0 dX1_many_0 rfl rfl ?_
  refine wp_callV (as := []) dX1_many_1 cb_X1_stands lk_X1_46 im_X1_stands se_X1_stands rfl (Nat.le_of_ble_eq_true rfl) ⟨by decide, by decide⟩ ⟨Nat.le_refl _, Nat.le_refl _, Nat.le_refl _⟩ i1 rfl (by decide) hb (fun r0 h3 hb => ?_)
  obtain ⟨r4, rfl, hb⟩ := hb
  refine wp_if_eq (tgt := 17) dX1_many_4 (by decide) (fun c5 => ?_) (fun c5 => ?_)
  · have hb := hb.1 c5
    refine wp_iconst (v := 0) dX1_many_17 (by decide) ?_
    exact wp_iret rfl dX1_many_18 ⟨_, rfl, hb⟩
  · have hb := hb.2 c5
    refine wp_aload_n 0 dX1_many_7 rfl rfl ?_
    obtain ⟨i6, hb⟩ := hb
    refine wp_getR dX1_many_8 fl_X1_18 i1 (i6.ne (by decide)) ?_
    refine wp_getI dX1_many_11 fl_X1_50 i6 ?_
    refine wp_goto (tgt := 18) dX1_many_14 (by decide) ?_
    exact wp_iret rfl dX1_many_18 ⟨_, rfl, hb⟩
theorem c_X1_many {l : Launch} {g : AG} {h : AH} {x0 : Nat}  {Q : Int32 → AH → Prop} (hb : L_X1_many_0 l g h x0  Q) : C_X1_many l g h x0  Q := ax_met rfl (Nat.le_of_ble_eq_true rfl) hb
def C_X9_map (l : Launch) (g : AG) (h : AH) (x0 : Nat) (x1 : Int32)  (Q : Int32 → AH → Prop) : Prop := Ct l g mX9_map 6 150 194 194 h [.ref x0, .int x1] (ax_QI Q)
def L_X9_map_0 (l : Launch) (g : AG) (h : AH) (x0 : Nat) (x1 : Int32)  (Q : Int32 → AH → Prop) : Prop := Wp l g mX9_map 6 150 194 194 194 0 [(0, .ref x0), (1, .int x1)] [] h (FM g 194 194 (ax_QI Q))
set_option maxRecDepth 100000 in
set_option maxHeartbeats 4000000 in
theorem s_X9_map_0 {l : Launch} {g : AG} {h : AH} {x0 : Nat} {x1 : Int32}  {Q : Int32 → AH → Prop} (hb : (Is 194 x0 8) ∧ ( C_X9_has l g h x0 x1 (fun r4 h3 => ( ((¬ r4 = 0 → ((Is 194 (h3.2.2 x0 6) 1) ∧ ( (Is 194 (h3.2.2 x0 2) 24) ∧ ( (vp_in x1 (ax_s (h3.2.2 x0 2)).2) ∧ ( (Is 194 (h3.2.2 (h3.2.2 x0 2) x1.toNatClampNeg) 0) ∧ ( C_X1_made l g h3 (h3.2.2 x0 6) (h3.2.2 (h3.2.2 x0 2) x1.toNatClampNeg) x1 (fun r12 h11 => ( ((¬ r12 = 0 → ((Is 194 (h11.2.2 x0 6) 1) ∧ ( C_X1_many l g h11 (h11.2.2 x0 6) (fun r17 h16 => ( C_X9_granted l g h16 x0 r17 (fun r20 h19 => ( Q r20 h19))))))) ∧ (r12 = 0 → (C_X9_refused l g h11 x0 5 (fun r23 h22 => ( Q r23 h22))))))))))))) ∧ (r4 = 0 → (C_X9_refused l g h3 x0 1 (fun r26 h25 => ( Q r26 h25))))))))) : L_X9_map_0 l g h x0 x1  Q := by
  obtain ⟨i1, hb⟩ := hb
  refine wp_aload_n 0 dX9_map_0 rfl rfl ?_
  refine wp_iload_n 1 dX9_map_1 rfl rfl ?_
  refine wp_callV (as := [.int x1]) dX9_map_2 cb_X9_has lk_X9_106 im_X9_has se_X9_has rfl (Nat.le_of_ble_eq_true rfl) ⟨by decide, by decide⟩ ⟨Nat.le_refl _, Nat.le_refl _, Nat.le_refl _⟩ i1 rfl (by decide) hb (fun r0 h3 hb => ?_)
  obtain ⟨r4, rfl, hb⟩ := hb
  refine wp_if_ne (tgt := 14) dX9_map_5 (by decide) (fun c5 => ?_) (fun c5 => ?_)
  · have hb := hb.1 c5
    refine wp_aload_n 0 dX9_map_14 rfl rfl ?_
    obtain ⟨i6, hb⟩ := hb
    refine wp_getR dX9_map_15 fl_X9_44 i1 (i6.ne (by decide)) ?_
    refine wp_aload_n 0 dX9_map_18 rfl rfl ?_
    obtain ⟨i7, hb⟩ := hb
    refine wp_getR dX9_map_19 fl_X9_20 i1 (i7.ne (by decide)) ?_
    refine wp_iload_n 1 dX9_map_22 rfl rfl ?_
    obtain ⟨b8, hb⟩ := hb
    obtain ⟨i9, hb⟩ := hb
    refine wp_aaload24 dX9_map_23 i7 b8 (i9.ne (by decide)) ?_
    refine wp_iload_n 1 dX9_map_24 rfl rfl ?_
    refine wp_callVN (as := [.ref (h3.2.2 (h3.2.2 x0 2) x1.toNatClampNeg), .int x1]) dX9_map_25 cb_X1_made lk_X9_174 im_X1_made se_X1_made rfl (Nat.le_of_ble_eq_true rfl) ⟨by decide, by decide⟩ ⟨Nat.le_refl _, Nat.le_refl _, Nat.le_refl _⟩ i6 rfl (by decide) hb (fun r0 h11 hb => ?_)
    obtain ⟨r12, rfl, hb⟩ := hb
    refine wp_if_ne (tgt := 37) dX9_map_28 (by decide) (fun c13 => ?_) (fun c13 => ?_)
    · have hb := hb.1 c13
      refine wp_aload_n 0 dX9_map_37 rfl rfl ?_
      refine wp_aload_n 0 dX9_map_38 rfl rfl ?_
      obtain ⟨i14, hb⟩ := hb
      refine wp_getR dX9_map_39 fl_X9_44 i1 (i14.ne (by decide)) ?_
      refine wp_callVN (as := []) dX9_map_42 cb_X1_many lk_X9_178 im_X1_many se_X1_many rfl (Nat.le_of_ble_eq_true rfl) ⟨by decide, by decide⟩ ⟨Nat.le_refl _, Nat.le_refl _, Nat.le_refl _⟩ i14 rfl (by decide) hb (fun r0 h16 hb => ?_)
      obtain ⟨r17, rfl, hb⟩ := hb
      refine wp_callV (as := [.int r17]) dX9_map_45 cb_X9_granted lk_X9_97 im_X9_granted se_X9_granted rfl (Nat.le_of_ble_eq_true rfl) ⟨by decide, by decide⟩ ⟨Nat.le_refl _, Nat.le_refl _, Nat.le_refl _⟩ i1 rfl (by decide) hb (fun r0 h19 hb => ?_)
      obtain ⟨r20, rfl, hb⟩ := hb
      exact wp_iret rfl dX9_map_48 ⟨_, rfl, hb⟩
    · have hb := hb.2 c13
      refine wp_aload_n 0 dX9_map_31 rfl rfl ?_
      refine wp_iconst (v := 5) dX9_map_32 (by decide) ?_
      refine wp_callV (as := [.int 5]) dX9_map_33 cb_X9_refused lk_X9_76 im_X9_refused se_X9_refused rfl (Nat.le_of_ble_eq_true rfl) ⟨by decide, by decide⟩ ⟨Nat.le_refl _, Nat.le_refl _, Nat.le_refl _⟩ i1 rfl (by decide) hb (fun r0 h22 hb => ?_)
      obtain ⟨r23, rfl, hb⟩ := hb
      exact wp_iret rfl dX9_map_36 ⟨_, rfl, hb⟩
  · have hb := hb.2 c5
    refine wp_aload_n 0 dX9_map_8 rfl rfl ?_
    refine wp_iconst (v := 1) dX9_map_9 (by decide) ?_
    refine wp_callV (as := [.int 1]) dX9_map_10 cb_X9_refused lk_X9_76 im_X9_refused se_X9_refused rfl (Nat.le_of_ble_eq_true rfl) ⟨by decide, by decide⟩ ⟨Nat.le_refl _, Nat.le_refl _, Nat.le_refl _⟩ i1 rfl (by decide) hb (fun r0 h25 hb => ?_)
    obtain ⟨r26, rfl, hb⟩ := hb
    exact wp_iret rfl dX9_map_13 ⟨_, rfl, hb⟩
theorem c_X9_map {l : Launch} {g : AG} {h : AH} {x0 : Nat} {x1 : Int32}  {Q : Int32 → AH → Prop} (hb : L_X9_map_0 l g h x0 x1  Q) : C_X9_map l g h x0 x1  Q := ax_met rfl (Nat.le_of_ble_eq_true rfl) hb
def C_X1_waysFrom (l : Launch) (g : AG) (h : AH) (x0 : Nat) (x1 : Int32)  (Q : Int32 → AH → Prop) : Prop := Ct l g mX1_waysFrom 0 0 194 194 h [.ref x0, .int x1] (ax_QI Q)
def L_X1_waysFrom_0 (l : Launch) (g : AG) (h : AH) (x0 : Nat) (x1 : Int32)  (Q : Int32 → AH → Prop) : Prop := Wp l g mX1_waysFrom 0 0 194 194 194 0 [(0, .ref x0), (1, .int x1)] [] h (FM g 194 194 (ax_QI Q))
def L_X1_waysFrom_4 (l : Launch) (g : AG) (h : AH) (x0 : Nat) (x1 : Int32) (x2 : Int32) (x3 : Int32)  (Q : Int32 → AH → Prop) : Prop := Wp l g mX1_waysFrom 0 0 194 194 194 4 [(0, .ref x0), (1, .int x1), (2, .int x2), (3, .int x3)] [] h (FM g 194 194 (ax_QI Q))
set_option maxRecDepth 100000 in
set_option maxHeartbeats 4000000 in
theorem s_X1_waysFrom_0 {l : Launch} {g : AG} {h : AH} {x0 : Nat} {x1 : Int32}  {Q : Int32 → AH → Prop} (hb : L_X1_waysFrom_4 l g h x0 x1 0 0  Q) : L_X1_waysFrom_0 l g h x0 x1  Q := by
  refine wp_iconst (v := 0) dX1_waysFrom_0 (by decide) ?_
  refine wp_istore_n (lv2 := [(2, .int 0), (0, .ref x0), (1, .int x1)]) dX1_waysFrom_1 rfl (by decide) rfl ?_
  refine wp_iconst (v := 0) dX1_waysFrom_2 (by decide) ?_
  refine wp_istore_n (lv2 := [(3, .int 0), (2, .int 0), (0, .ref x0), (1, .int x1)]) dX1_waysFrom_3 rfl (by decide) rfl ?_
  exact wp_sub [2, 3, 1, 0] rfl hb
set_option maxRecDepth 100000 in
set_option maxHeartbeats 4000000 in
theorem s_X1_waysFrom_4 {l : Launch} {g : AG} {h : AH} {x0 : Nat} {x1 : Int32} {x2 : Int32} {x3 : Int32}  {Q : Int32 → AH → Prop} (hb : ((27 ≤ x3 → (Q x2 h)) ∧ (¬ (27 ≤ x3) → ((Is 194 x0 1) ∧ ( (Is 194 (h.2.2 x0 3) 20) ∧ ( (vp_in ((x1 * 27) + x3) (ax_s (h.2.2 x0 3)).2) ∧ ( ((h.1 (h.2.2 x0 3) ((x1 * 27) + x3).toNatClampNeg < 0 → (∀ v6 : Int32, v6 = x3 + (1) → ( L_X1_waysFrom_4 l g h x0 x1 x2 v6  Q))) ∧ (¬ (h.1 (h.2.2 x0 3) ((x1 * 27) + x3).toNatClampNeg < 0) → (∀ v8 : Int32, v8 = x2 + (1) → ( ∀ v10 : Int32, v10 = x3 + (1) → ( L_X1_waysFrom_4 l g h x0 x1 v8 v10  Q)))))))))))) : L_X1_waysFrom_4 l g h x0 x1 x2 x3  Q := by
  refine wp_iload_n 3 dX1_waysFrom_4 rfl rfl ?_
  refine wp_bipush (v := 27) dX1_waysFrom_5 (by decide) ?_
  refine wp_icmp_ge (tgt := 33) dX1_waysFrom_7 (by decide) (fun c1 => ?_) (fun c1 => ?_)
  · have hb := hb.1 c1
    refine wp_iload_n 2 dX1_waysFrom_33 rfl rfl ?_
    exact wp_iret rfl dX1_waysFrom_34 ⟨_, rfl, hb⟩
  · have hb := hb.2 c1
    obtain ⟨i2, hb⟩ := hb
    refine wp_aload_n 0 dX1_waysFrom_10 rfl rfl ?_
    obtain ⟨i3, hb⟩ := hb
    refine wp_getR dX1_waysFrom_11 fl_X1_22 i2 (i3.ne (by decide)) ?_
    refine wp_iload_n 1 dX1_waysFrom_14 rfl rfl ?_
    refine wp_bipush (v := 27) dX1_waysFrom_15 (by decide) ?_
    refine wp_imul dX1_waysFrom_17 ?_
    refine wp_iload_n 3 dX1_waysFrom_18 rfl rfl ?_
    refine wp_iadd dX1_waysFrom_19 ?_
    obtain ⟨b4, hb⟩ := hb
    refine wp_iaload dX1_waysFrom_20 i3 b4 ?_
    refine wp_if_lt (tgt := 27) dX1_waysFrom_21 (by decide) (fun c5 => ?_) (fun c5 => ?_)
    · have hb := hb.1 c5
      obtain ⟨v6, e7⟩ : ∃ y : Int32, y = x3 + (1) := ⟨_, rfl⟩
      have hb := hb v6 e7
      refine wp_iinc (v := v6) (lv2 := [(3, .int v6), (0, .ref x0), (1, .int x1), (2, .int x2)]) 3 dX1_waysFrom_27 rfl (by rw [e7]; rfl) (by decide) rfl ?_
      refine wp_goto (tgt := 4) dX1_waysFrom_30 (by decide) ?_
      exact wp_sub [1, 2, 3, 0] rfl hb
    · have hb := hb.2 c5
      obtain ⟨v8, e9⟩ : ∃ y : Int32, y = x2 + (1) := ⟨_, rfl⟩
      have hb := hb v8 e9
      refine wp_iinc (v := v8) (lv2 := [(2, .int v8), (0, .ref x0), (1, .int x1), (3, .int x3)]) 2 dX1_waysFrom_24 rfl (by rw [e9]; rfl) (by decide) rfl ?_
      obtain ⟨v10, e11⟩ : ∃ y : Int32, y = x3 + (1) := ⟨_, rfl⟩
      have hb := hb v10 e11
      refine wp_iinc (v := v10) (lv2 := [(3, .int v10), (2, .int v8), (0, .ref x0), (1, .int x1)]) 3 dX1_waysFrom_27 rfl (by rw [e11]; rfl) (by decide) rfl ?_
      refine wp_goto (tgt := 4) dX1_waysFrom_30 (by decide) ?_
      exact wp_sub [2, 3, 1, 0] rfl hb
theorem c_X1_waysFrom {l : Launch} {g : AG} {h : AH} {x0 : Nat} {x1 : Int32}  {Q : Int32 → AH → Prop} (hb : L_X1_waysFrom_0 l g h x0 x1  Q) : C_X1_waysFrom l g h x0 x1  Q := ax_met rfl (Nat.le_of_ble_eq_true rfl) hb
def C_X0_shownIn (l : Launch) (g : AG) (h : AH) (x0 : Nat) (x1 : Int64) (x3 : Int32) (x4 : Int32)  (Q : Int32 → AH → Prop) : Prop := Ct l g mX0_shownIn 1 22 194 194 h [.ref x0, .long x1, .int x3, .int x4] (ax_QI Q)
def L_X0_shownIn_0 (l : Launch) (g : AG) (h : AH) (x0 : Nat) (x1 : Int64) (x3 : Int32) (x4 : Int32)  (Q : Int32 → AH → Prop) : Prop := Wp l g mX0_shownIn 1 22 194 194 194 0 [(0, .ref x0), (1, .long x1), (3, .int x3), (4, .int x4)] [] h (FM g 194 194 (ax_QI Q))
set_option maxRecDepth 100000 in
set_option maxHeartbeats 4000000 in
theorem s_X0_shownIn_0 {l : Launch} {g : AG} {h : AH} {x0 : Nat} {x1 : Int64} {x3 : Int32} {x4 : Int32}  {Q : Int32 → AH → Prop} (hb : (Is 194 x0 0) ∧ ( (Is 194 (h.2.2 x0 12) 20) ∧ ( (vp_in ((x3 * 6) + x4) (ax_s (h.2.2 x0 12)).2) ∧ ( C_X3_valueOf l g h x1 (h.1 (h.2.2 x0 12) ((x3 * 6) + x4).toNatClampNeg) (fun r6 h5 => ( Q r6 h5)))))) : L_X0_shownIn_0 l g h x0 x1 x3 x4  Q := by
  refine wp_lload_n 1 dX0_shownIn_0 rfl rfl ?_
  obtain ⟨i1, hb⟩ := hb
  refine wp_aload_n 0 dX0_shownIn_1 rfl rfl ?_
  obtain ⟨i2, hb⟩ := hb
  refine wp_getR dX0_shownIn_2 fl_X0_51 i1 (i2.ne (by decide)) ?_
  refine wp_iload_n 2 dX0_shownIn_5 rfl rfl ?_
  refine wp_bipush (v := 6) dX0_shownIn_6 (by decide) ?_
  refine wp_imul dX0_shownIn_8 ?_
  refine wp_iload 3 dX0_shownIn_9 rfl ?_
  refine wp_iadd dX0_shownIn_11 ?_
  obtain ⟨b3, hb⟩ := hb
  refine wp_iaload dX0_shownIn_12 i2 b3 ?_
  refine wp_callSN (as := [.long x1, .int (h.1 (h.2.2 x0 12) ((x3 * 6) + x4).toNatClampNeg)]) dX0_shownIn_13 cb_X3_valueOf lk_X0_149 st_X3_valueOf rfl (Nat.le_of_ble_eq_true rfl) ⟨by decide, by decide⟩ ⟨Nat.le_refl _, Nat.le_refl _, Nat.le_refl _⟩ hb (fun r0 h5 hb => ?_)
  obtain ⟨r6, rfl, hb⟩ := hb
  exact wp_iret rfl dX0_shownIn_16 ⟨_, rfl, hb⟩
theorem c_X0_shownIn {l : Launch} {g : AG} {h : AH} {x0 : Nat} {x1 : Int64} {x3 : Int32} {x4 : Int32}  {Q : Int32 → AH → Prop} (hb : L_X0_shownIn_0 l g h x0 x1 x3 x4  Q) : C_X0_shownIn l g h x0 x1 x3 x4  Q := ax_met rfl (Nat.le_of_ble_eq_true rfl) hb
