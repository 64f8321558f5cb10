def C_X12_least (l : Launch) (g : AG) (h : AH) (x0 : Nat)  (Q : Int32 → AH → Prop) : Prop := Ct l g mX12_least 1 21 194 194 h [.ref x0] (ax_QI Q)
def L_X12_least_0 (l : Launch) (g : AG) (h : AH) (x0 : Nat)  (Q : Int32 → AH → Prop) : Prop := Wp l g mX12_least 1 21 194 194 194 0 [(0, .ref x0)] [] h (FM g 194 194 (ax_QI Q))
set_option maxRecDepth 100000 in
set_option maxHeartbeats 4000000 in
theorem s_X12_least_0 {l : Launch} {g : AG} {h : AH} {x0 : Nat}  {Q : Int32 → AH → Prop} (hb : (Is 194 x0 11) ∧ ( ∀ h2 : AH, h2 = ax_setI h x0 0 0 → ( ((¬ h2.1 x0 24 = (-1) → (C_X12_done l g h2 x0 (h2.1 x0 36) (fun r7 h6 => ( Q r7 h6)))) ∧ (h2.1 x0 24 = (-1) → (C_X12_refused l g h2 x0 6 (fun r10 h9 => ( Q r10 h9)))))))) : L_X12_least_0 l g h x0  Q := by
  obtain ⟨i1, hb⟩ := hb
  refine wp_aload_n 0 dX12_least_0 rfl rfl ?_
  refine wp_iconst (v := 0) dX12_least_1 (by decide) ?_
  refine wp_putI dX12_least_2 fl_X12_1 (Or.inl rfl) i1 ?_
  refine wp_topH (fun h2 e3 => ?_)
  have hb := hb h2 e3
  refine wp_aload_n 0 dX12_least_5 rfl rfl ?_
  refine wp_getI dX12_least_6 fl_X12_62 i1 ?_
  refine wp_iconst (v := (-1)) dX12_least_9 (by decide) ?_
  refine wp_icmp_ne (tgt := 22) dX12_least_10 (by decide) (fun c4 => ?_) (fun c4 => ?_)
  · have hb := hb.1 c4
    refine wp_aload_n 0 dX12_least_22 rfl rfl ?_
    refine wp_aload_n 0 dX12_least_23 rfl rfl ?_
    refine wp_getI dX12_least_24 fl_X12_405 i1 ?_
    refine wp_callV (as := [.int (h2.1 x0 36)]) dX12_least_27 cb_X12_done lk_X12_337 im_X12_done se_X12_done rfl (Nat.le_of_ble_eq_true rfl) ⟨by decide, by decide⟩ ⟨Nat.le_refl _, Nat.le_refl _, Nat.le_refl _⟩ i1 rfl (by decide) hb (fun r0 h6 hb => ?_)
    obtain ⟨r7, rfl, hb⟩ := hb
    exact wp_iret rfl dX12_least_30 ⟨_, rfl, hb⟩
  · have hb := hb.2 c4
    refine wp_aload_n 0 dX12_least_13 rfl rfl ?_
    refine wp_bipush (v := 6) dX12_least_14 (by decide) ?_
    refine wp_callV (as := [.int 6]) dX12_least_16 cb_X12_refused lk_X12_316 im_X12_refused se_X12_refused rfl (Nat.le_of_ble_eq_true rfl) ⟨by decide, by decide⟩ ⟨Nat.le_refl _, Nat.le_refl _, Nat.le_refl _⟩ i1 rfl (by decide) hb (fun r0 h9 hb => ?_)
    obtain ⟨r10, rfl, hb⟩ := hb
    refine wp_goto (tgt := 30) dX12_least_19 (by decide) ?_
    exact wp_iret rfl dX12_least_30 ⟨_, rfl, hb⟩
theorem c_X12_least {l : Launch} {g : AG} {h : AH} {x0 : Nat}  {Q : Int32 → AH → Prop} (hb : L_X12_least_0 l g h x0  Q) : C_X12_least l g h x0  Q := ax_met rfl (Nat.le_of_ble_eq_true rfl) hb
def C_X12_views (l : Launch) (g : AG) (h : AH) (x0 : Nat)  (Q : Int32 → AH → Prop) : Prop := Ct l g mX12_views 1 25 194 194 h [.ref x0] (ax_QI Q)
def L_X12_views_0 (l : Launch) (g : AG) (h : AH) (x0 : Nat)  (Q : Int32 → AH → Prop) : Prop := Wp l g mX12_views 1 25 194 194 194 0 [(0, .ref x0)] [] h (FM g 194 194 (ax_QI Q))
def L_X12_views_24 (l : Launch) (g : AG) (h : AH) (x0 : Nat) (x1 : Int32) (x2 : Int32)  (Q : Int32 → AH → Prop) : Prop := Wp l g mX12_views 1 25 194 194 194 24 [(0, .ref x0), (1, .int x1), (2, .int x2)] [] h (FM g 194 194 (ax_QI Q))
set_option maxRecDepth 100000 in
set_option maxHeartbeats 4000000 in
theorem s_X12_views_0 {l : Launch} {g : AG} {h : AH} {x0 : Nat}  {Q : Int32 → AH → Prop} (hb : (Is 194 x0 11) ∧ ( ∀ h2 : AH, h2 = ax_setI h x0 0 0 → ( ((¬ h2.1 x0 24 = (-1) → (L_X12_views_24 l g h2 x0 0 0  Q)) ∧ (h2.1 x0 24 = (-1) → (C_X12_refused l g h2 x0 6 (fun r7 h6 => ( Q r7 h6)))))))) : L_X12_views_0 l g h x0  Q := by
  obtain ⟨i1, hb⟩ := hb
  refine wp_aload_n 0 dX12_views_0 rfl rfl ?_
  refine wp_iconst (v := 0) dX12_views_1 (by decide) ?_
  refine wp_putI dX12_views_2 fl_X12_1 (Or.inl rfl) i1 ?_
  refine wp_topH (fun h2 e3 => ?_)
  have hb := hb h2 e3
  refine wp_aload_n 0 dX12_views_5 rfl rfl ?_
  refine wp_getI dX12_views_6 fl_X12_62 i1 ?_
  refine wp_iconst (v := (-1)) dX12_views_9 (by decide) ?_
  refine wp_icmp_ne (tgt := 20) dX12_views_10 (by decide) (fun c4 => ?_) (fun c4 => ?_)
  · have hb := hb.1 c4
    refine wp_iconst (v := 0) dX12_views_20 (by decide) ?_
    refine wp_istore_n (lv2 := [(1, .int 0), (0, .ref x0)]) dX12_views_21 rfl (by decide) rfl ?_
    refine wp_iconst (v := 0) dX12_views_22 (by decide) ?_
    refine wp_istore_n (lv2 := [(2, .int 0), (1, .int 0), (0, .ref x0)]) dX12_views_23 rfl (by decide) rfl ?_
    exact wp_sub [2, 1, 0] rfl hb
  · have hb := hb.2 c4
    refine wp_aload_n 0 dX12_views_13 rfl rfl ?_
    refine wp_bipush (v := 6) dX12_views_14 (by decide) ?_
    refine wp_callV (as := [.int 6]) dX12_views_16 cb_X12_refused lk_X12_316 im_X12_refused se_X12_refused rfl (Nat.le_of_ble_eq_true rfl) ⟨by decide, by decide⟩ ⟨Nat.le_refl _, Nat.le_refl _, Nat.le_refl _⟩ i1 rfl (by decide) hb (fun r0 h6 hb => ?_)
    obtain ⟨r7, rfl, hb⟩ := hb
    exact wp_iret rfl dX12_views_19 ⟨_, rfl, hb⟩
set_option maxRecDepth 100000 in
set_option maxHeartbeats 4000000 in
theorem s_X12_views_24 {l : Launch} {g : AG} {h : AH} {x0 : Nat} {x1 : Int32} {x2 : Int32}  {Q : Int32 → AH → Prop} (hb : (Is 194 x0 11) ∧ ( ((h.1 x0 25 ≤ x2 → (C_X12_done l g h x0 x1 (fun r12 h11 => ( Q r12 h11)))) ∧ (¬ (h.1 x0 25 ≤ x2) → ((Is 194 (h.2.2 x0 37) 21) ∧ ( (Is 194 (h.2.2 x0 37) 21) ∧ ( (vp_in x2 (ax_s (h.2.2 x0 37)).2) ∧ ( C_X12_find l g h (h.2.2 x0 37) 0 x2 (h.2.1 (h.2.2 x0 37) x2.toNatClampNeg) (fun r18 h17 => ( ((¬ r18 = (-1) → (∀ v20 : Int32, v20 = (x1 + 0) → ( ∀ v22 : Int32, v22 = x2 + (1) → ( L_X12_views_24 l g h17 x0 v20 v22  Q)))) ∧ (r18 = (-1) → (∀ v24 : Int32, v24 = (x1 + 1) → ( ∀ v26 : Int32, v26 = x2 + (1) → ( L_X12_views_24 l g h17 x0 v24 v26  Q))))))))))))))) : L_X12_views_24 l g h x0 x1 x2  Q := by
  refine wp_iload_n 2 dX12_views_24 rfl rfl ?_
  obtain ⟨i8, hb⟩ := hb
  refine wp_aload_n 0 dX12_views_25 rfl rfl ?_
  refine wp_getI dX12_views_26 fl_X12_334 i8 ?_
  refine wp_icmp_ge (tgt := 65) dX12_views_29 (by decide) (fun c9 => ?_) (fun c9 => ?_)
  · have hb := hb.1 c9
    refine wp_aload_n 0 dX12_views_65 rfl rfl ?_
    refine wp_iload_n 1 dX12_views_66 rfl rfl ?_
    refine wp_callV (as := [.int x1]) dX12_views_67 cb_X12_done lk_X12_337 im_X12_done se_X12_done rfl (Nat.le_of_ble_eq_true rfl) ⟨by decide, by decide⟩ ⟨Nat.le_refl _, Nat.le_refl _, Nat.le_refl _⟩ i8 rfl (by decide) hb (fun r0 h11 hb => ?_)
    obtain ⟨r12, rfl, hb⟩ := hb
    exact wp_iret rfl dX12_views_70 ⟨_, rfl, hb⟩
  · have hb := hb.2 c9
    refine wp_iload_n 1 dX12_views_32 rfl rfl ?_
    refine wp_aload_n 0 dX12_views_33 rfl rfl ?_
    obtain ⟨i13, hb⟩ := hb
    refine wp_getR dX12_views_34 fl_X12_95 i8 (i13.ne (by decide)) ?_
    refine wp_iconst (v := 0) dX12_views_37 (by decide) ?_
    refine wp_iload_n 2 dX12_views_38 rfl rfl ?_
    refine wp_aload_n 0 dX12_views_39 rfl rfl ?_
    obtain ⟨i14, hb⟩ := hb
    refine wp_getR dX12_views_40 fl_X12_95 i8 (i14.ne (by decide)) ?_
    refine wp_iload_n 2 dX12_views_43 rfl rfl ?_
    obtain ⟨b15, hb⟩ := hb
    refine wp_laload dX12_views_44 i14 b15 ?_
    refine wp_callS (as := [.ref (h.2.2 x0 37), .int 0, .int x2, .long (h.2.1 (h.2.2 x0 37) x2.toNatClampNeg)]) dX12_views_45 cb_X12_find lk_X12_201 st_X12_find rfl (Nat.le_of_ble_eq_true rfl) ⟨by decide, by decide⟩ ⟨Nat.le_refl _, Nat.le_refl _, Nat.le_refl _⟩ hb (fun r0 h17 hb => ?_)
    obtain ⟨r18, rfl, hb⟩ := hb
    refine wp_iconst (v := (-1)) dX12_views_48 (by decide) ?_
    refine wp_icmp_ne (tgt := 56) dX12_views_49 (by decide) (fun c19 => ?_) (fun c19 => ?_)
    · have hb := hb.1 c19
      refine wp_iconst (v := 0) dX12_views_56 (by decide) ?_
      refine wp_iadd dX12_views_57 ?_
      refine wp_topi (fun v20 e21 => ?_)
      have hb := hb v20 e21
      refine wp_istore_n (lv2 := [(1, .int v20), (0, .ref x0), (2, .int x2)]) dX12_views_58 rfl (by decide) rfl ?_
      obtain ⟨v22, e23⟩ : ∃ y : Int32, y = x2 + (1) := ⟨_, rfl⟩
      have hb := hb v22 e23
      refine wp_iinc (v := v22) (lv2 := [(2, .int v22), (1, .int v20), (0, .ref x0)]) 2 dX12_views_59 rfl (by rw [e23]; rfl) (by decide) rfl ?_
      refine wp_goto (tgt := 24) dX12_views_62 (by decide) ?_
      exact wp_sub [2, 1, 0] rfl hb
    · have hb := hb.2 c19
      refine wp_iconst (v := 1) dX12_views_52 (by decide) ?_
      refine wp_goto (tgt := 57) dX12_views_53 (by decide) ?_
      refine wp_iadd dX12_views_57 ?_
      refine wp_topi (fun v24 e25 => ?_)
      have hb := hb v24 e25
      refine wp_istore_n (lv2 := [(1, .int v24), (0, .ref x0), (2, .int x2)]) dX12_views_58 rfl (by decide) rfl ?_
      obtain ⟨v26, e27⟩ : ∃ y : Int32, y = x2 + (1) := ⟨_, rfl⟩
      have hb := hb v26 e27
      refine wp_iinc (v := v26) (lv2 := [(2, .int v26), (1, .int v24), (0, .ref x0)]) 2 dX12_views_59 rfl (by rw [e27]; rfl) (by decide) rfl ?_
      refine wp_goto (tgt := 24) dX12_views_62 (by decide) ?_
      exact wp_sub [2, 1, 0] rfl hb
theorem c_X12_views {l : Launch} {g : AG} {h : AH} {x0 : Nat}  {Q : Int32 → AH → Prop} (hb : L_X12_views_0 l g h x0  Q) : C_X12_views l g h x0  Q := ax_met rfl (Nat.le_of_ble_eq_true rfl) hb
def C_X12_farthest (l : Launch) (g : AG) (h : AH) (x0 : Nat)  (Q : Int32 → AH → Prop) : Prop := Ct l g mX12_farthest 1 21 194 194 h [.ref x0] (ax_QI Q)
def L_X12_farthest_0 (l : Launch) (g : AG) (h : AH) (x0 : Nat)  (Q : Int32 → AH → Prop) : Prop := Wp l g mX12_farthest 1 21 194 194 194 0 [(0, .ref x0)] [] h (FM g 194 194 (ax_QI Q))
def L_X12_farthest_24 (l : Launch) (g : AG) (h : AH) (x0 : Nat) (x1 : Int32) (x2 : Int32)  (Q : Int32 → AH → Prop) : Prop := Wp l g mX12_farthest 1 21 194 194 194 24 [(0, .ref x0), (1, .int x1), (2, .int x2)] [] h (FM g 194 194 (ax_QI Q))
set_option maxRecDepth 100000 in
set_option maxHeartbeats 4000000 in
theorem s_X12_farthest_0 {l : Launch} {g : AG} {h : AH} {x0 : Nat}  {Q : Int32 → AH → Prop} (hb : (Is 194 x0 11) ∧ ( ∀ h2 : AH, h2 = ax_setI h x0 0 0 → ( ((¬ h2.1 x0 24 = (-1) → (L_X12_farthest_24 l g h2 x0 0 0  Q)) ∧ (h2.1 x0 24 = (-1) → (C_X12_refused l g h2 x0 6 (fun r7 h6 => ( Q r7 h6)))))))) : L_X12_farthest_0 l g h x0  Q := by
  obtain ⟨i1, hb⟩ := hb
  refine wp_aload_n 0 dX12_farthest_0 rfl rfl ?_
  refine wp_iconst (v := 0) dX12_farthest_1 (by decide) ?_
  refine wp_putI dX12_farthest_2 fl_X12_1 (Or.inl rfl) i1 ?_
  refine wp_topH (fun h2 e3 => ?_)
  have hb := hb h2 e3
  refine wp_aload_n 0 dX12_farthest_5 rfl rfl ?_
  refine wp_getI dX12_farthest_6 fl_X12_62 i1 ?_
  refine wp_iconst (v := (-1)) dX12_farthest_9 (by decide) ?_
  refine wp_icmp_ne (tgt := 20) dX12_farthest_10 (by decide) (fun c4 => ?_) (fun c4 => ?_)
  · have hb := hb.1 c4
    refine wp_iconst (v := 0) dX12_farthest_20 (by decide) ?_
    refine wp_istore_n (lv2 := [(1, .int 0), (0, .ref x0)]) dX12_farthest_21 rfl (by decide) rfl ?_
    refine wp_iconst (v := 0) dX12_farthest_22 (by decide) ?_
    refine wp_istore_n (lv2 := [(2, .int 0), (1, .int 0), (0, .ref x0)]) dX12_farthest_23 rfl (by decide) rfl ?_
    exact wp_sub [2, 1, 0] rfl hb
  · have hb := hb.2 c4
    refine wp_aload_n 0 dX12_farthest_13 rfl rfl ?_
    refine wp_bipush (v := 6) dX12_farthest_14 (by decide) ?_
    refine wp_callV (as := [.int 6]) dX12_farthest_16 cb_X12_refused lk_X12_316 im_X12_refused se_X12_refused rfl (Nat.le_of_ble_eq_true rfl) ⟨by decide, by decide⟩ ⟨Nat.le_refl _, Nat.le_refl _, Nat.le_refl _⟩ i1 rfl (by decide) hb (fun r0 h6 hb => ?_)
    obtain ⟨r7, rfl, hb⟩ := hb
    exact wp_iret rfl dX12_farthest_19 ⟨_, rfl, hb⟩
set_option maxRecDepth 100000 in
set_option maxHeartbeats 4000000 in
theorem s_X12_farthest_24 {l : Launch} {g : AG} {h : AH} {x0 : Nat} {x1 : Int32} {x2 : Int32}  {Q : Int32 → AH → Prop} (hb : (Is 194 x0 11) ∧ ( ((h.1 x0 25 ≤ x2 → (C_X12_done l g h x0 x1 (fun r12 h11 => ( Q r12 h11)))) ∧ (¬ (h.1 x0 25 ≤ x2) → ((Is 194 (h.2.2 x0 30) 20) ∧ ( (vp_in x2 (ax_s (h.2.2 x0 30)).2) ∧ ( ∀ v15 : Int32, v15 = (if x1 < h.1 (h.2.2 x0 30) x2.toNatClampNeg then h.1 (h.2.2 x0 30) x2.toNatClampNeg else x1) → ( ∀ v17 : Int32, v17 = x2 + (1) → ( L_X12_farthest_24 l g h x0 v15 v17  Q))))))))) : L_X12_farthest_24 l g h x0 x1 x2  Q := by
  refine wp_iload_n 2 dX12_farthest_24 rfl rfl ?_
  obtain ⟨i8, hb⟩ := hb
  refine wp_aload_n 0 dX12_farthest_25 rfl rfl ?_
  refine wp_getI dX12_farthest_26 fl_X12_334 i8 ?_
  refine wp_icmp_ge (tgt := 49) dX12_farthest_29 (by decide) (fun c9 => ?_) (fun c9 => ?_)
  · have hb := hb.1 c9
    refine wp_aload_n 0 dX12_farthest_49 rfl rfl ?_
    refine wp_iload_n 1 dX12_farthest_50 rfl rfl ?_
    refine wp_callV (as := [.int x1]) dX12_farthest_51 cb_X12_done lk_X12_337 im_X12_done se_X12_done rfl (Nat.le_of_ble_eq_true rfl) ⟨by decide, by decide⟩ ⟨Nat.le_refl _, Nat.le_refl _, Nat.le_refl _⟩ i8 rfl (by decide) hb (fun r0 h11 hb => ?_)
    obtain ⟨r12, rfl, hb⟩ := hb
    exact wp_iret rfl dX12_farthest_54 ⟨_, rfl, hb⟩
  · have hb := hb.2 c9
    refine wp_iload_n 1 dX12_farthest_32 rfl rfl ?_
    refine wp_aload_n 0 dX12_farthest_33 rfl rfl ?_
    obtain ⟨i13, hb⟩ := hb
    refine wp_getR dX12_farthest_34 fl_X12_77 i8 (i13.ne (by decide)) ?_
    refine wp_iload_n 2 dX12_farthest_37 rfl rfl ?_
    obtain ⟨b14, hb⟩ := hb
    refine wp_iaload dX12_farthest_38 i13 b14 ?_
    refine wp_mmax dX12_farthest_39 lk_X12_361 (Nat.le_of_ble_eq_true rfl) (by decide) (by decide) (by decide) ?_
    refine wp_topi (fun v15 e16 => ?_)
    have hb := hb v15 e16
    refine wp_istore_n (lv2 := [(1, .int v15), (0, .ref x0), (2, .int x2)]) dX12_farthest_42 rfl (by decide) rfl ?_
    obtain ⟨v17, e18⟩ : ∃ y : Int32, y = x2 + (1) := ⟨_, rfl⟩
    have hb := hb v17 e18
    refine wp_iinc (v := v17) (lv2 := [(2, .int v17), (1, .int v15), (0, .ref x0)]) 2 dX12_farthest_43 rfl (by rw [e18]; rfl) (by decide) rfl ?_
    refine wp_goto (tgt := 24) dX12_farthest_46 (by decide) ?_
    exact wp_sub [2, 1, 0] rfl hb
theorem c_X12_farthest {l : Launch} {g : AG} {h : AH} {x0 : Nat}  {Q : Int32 → AH → Prop} (hb : L_X12_farthest_0 l g h x0  Q) : C_X12_farthest l g h x0  Q := ax_met rfl (Nat.le_of_ble_eq_true rfl) hb
