def C_X12_ways (l : Launch) (g : AG) (h : AH) (x0 : Nat)  (Q : Int32 → AH → Prop) : Prop := Ct l g mX12_ways 1 22 194 194 h [.ref x0] (ax_QI Q)
def L_X12_ways_0 (l : Launch) (g : AG) (h : AH) (x0 : Nat)  (Q : Int32 → AH → Prop) : Prop := Wp l g mX12_ways 1 22 194 194 194 0 [(0, .ref x0)] [] h (FM g 194 194 (ax_QI Q))
def L_X12_ways_24 (l : Launch) (g : AG) (h : AH) (x0 : Nat) (x1 : Int32) (x2 : Int32)  (Q : Int32 → AH → Prop) : Prop := Wp l g mX12_ways 1 22 194 194 194 24 [(0, .ref x0), (1, .int x1), (2, .int x2)] [] h (FM g 194 194 (ax_QI Q))
set_option maxRecDepth 100000 in
set_option maxHeartbeats 4000000 in
theorem s_X12_ways_0 {l : Launch} {g : AG} {h : AH} {x0 : Nat}  {Q : Int32 → AH → Prop} (hb : (Is 194 x0 11) ∧ ( ∀ h2 : AH, h2 = ax_setI h x0 0 0 → ( ((¬ h2.1 x0 24 = (-1) → (L_X12_ways_24 l g h2 x0 0 0  Q)) ∧ (h2.1 x0 24 = (-1) → (C_X12_refused l g h2 x0 6 (fun r7 h6 => ( Q r7 h6)))))))) : L_X12_ways_0 l g h x0  Q := by
  obtain ⟨i1, hb⟩ := hb
  refine wp_aload_n 0 dX12_ways_0 rfl rfl ?_
  refine wp_iconst (v := 0) dX12_ways_1 (by decide) ?_
  refine wp_putI dX12_ways_2 fl_X12_1 (Or.inl rfl) i1 ?_
  refine wp_topH (fun h2 e3 => ?_)
  have hb := hb h2 e3
  refine wp_aload_n 0 dX12_ways_5 rfl rfl ?_
  refine wp_getI dX12_ways_6 fl_X12_62 i1 ?_
  refine wp_iconst (v := (-1)) dX12_ways_9 (by decide) ?_
  refine wp_icmp_ne (tgt := 20) dX12_ways_10 (by decide) (fun c4 => ?_) (fun c4 => ?_)
  · have hb := hb.1 c4
    refine wp_iconst (v := 0) dX12_ways_20 (by decide) ?_
    refine wp_istore_n (lv2 := [(1, .int 0), (0, .ref x0)]) dX12_ways_21 rfl (by decide) rfl ?_
    refine wp_iconst (v := 0) dX12_ways_22 (by decide) ?_
    refine wp_istore_n (lv2 := [(2, .int 0), (1, .int 0), (0, .ref x0)]) dX12_ways_23 rfl (by decide) rfl ?_
    exact wp_sub [2, 1, 0] rfl hb
  · have hb := hb.2 c4
    refine wp_aload_n 0 dX12_ways_13 rfl rfl ?_
    refine wp_bipush (v := 6) dX12_ways_14 (by decide) ?_
    refine wp_callV (as := [.int 6]) dX12_ways_16 cb_X12_refused lk_X12_316 im_X12_refused se_X12_refused rfl (Nat.le_of_ble_eq_true rfl) ⟨by decide, by decide⟩ ⟨Nat.le_refl _, Nat.le_refl _, Nat.le_refl _⟩ i1 rfl (by decide) hb (fun r0 h6 hb => ?_)
    obtain ⟨r7, rfl, hb⟩ := hb
    exact wp_iret rfl dX12_ways_19 ⟨_, rfl, hb⟩
set_option maxRecDepth 100000 in
set_option maxHeartbeats 4000000 in
theorem s_X12_ways_24 {l : Launch} {g : AG} {h : AH} {x0 : Nat} {x1 : Int32} {x2 : Int32}  {Q : Int32 → AH → Prop} (hb : (Is 194 x0 11) ∧ ( ((h.1 x0 25 ≤ x2 → (C_X12_done l g h x0 x1 (fun r12 h11 => ( Q r12 h11)))) ∧ (¬ (h.1 x0 25 ≤ x2) → ((Is 194 (h.2.2 x0 31) 20) ∧ ( (vp_in x2 (ax_s (h.2.2 x0 31)).2) ∧ ( C_X12_bits l g h (h.1 (h.2.2 x0 31) x2.toNatClampNeg) (fun r17 h16 => ( ∀ v18 : Int32, v18 = (x1 + r17) → ( ∀ v20 : Int32, v20 = x2 + (1) → ( L_X12_ways_24 l g h16 x0 v18 v20  Q))))))))))) : L_X12_ways_24 l g h x0 x1 x2  Q := by
  refine wp_iload_n 2 dX12_ways_24 rfl rfl ?_
  obtain ⟨i8, hb⟩ := hb
  refine wp_aload_n 0 dX12_ways_25 rfl rfl ?_
  refine wp_getI dX12_ways_26 fl_X12_334 i8 ?_
  refine wp_icmp_ge (tgt := 50) dX12_ways_29 (by decide) (fun c9 => ?_) (fun c9 => ?_)
  · have hb := hb.1 c9
    refine wp_aload_n 0 dX12_ways_50 rfl rfl ?_
    refine wp_iload_n 1 dX12_ways_51 rfl rfl ?_
    refine wp_callV (as := [.int x1]) dX12_ways_52 cb_X12_done lk_X12_337 im_X12_done se_X12_done rfl (Nat.le_of_ble_eq_true rfl) ⟨by decide, by decide⟩ ⟨Nat.le_refl _, Nat.le_refl _, Nat.le_refl _⟩ i8 rfl (by decide) hb (fun r0 h11 hb => ?_)
    obtain ⟨r12, rfl, hb⟩ := hb
    exact wp_iret rfl dX12_ways_55 ⟨_, rfl, hb⟩
  · have hb := hb.2 c9
    refine wp_iload_n 1 dX12_ways_32 rfl rfl ?_
    refine wp_aload_n 0 dX12_ways_33 rfl rfl ?_
    obtain ⟨i13, hb⟩ := hb
    refine wp_getR dX12_ways_34 fl_X12_80 i8 (i13.ne (by decide)) ?_
    refine wp_iload_n 2 dX12_ways_37 rfl rfl ?_
    obtain ⟨b14, hb⟩ := hb
    refine wp_iaload dX12_ways_38 i13 b14 ?_
    refine wp_callS (as := [.int (h.1 (h.2.2 x0 31) x2.toNatClampNeg)]) dX12_ways_39 cb_X12_bits lk_X12_387 st_X12_bits rfl (Nat.le_of_ble_eq_true rfl) ⟨by decide, by decide⟩ ⟨Nat.le_refl _, Nat.le_refl _, Nat.le_refl _⟩ hb (fun r0 h16 hb => ?_)
    obtain ⟨r17, rfl, hb⟩ := hb
    refine wp_iadd dX12_ways_42 ?_
    refine wp_topi (fun v18 e19 => ?_)
    have hb := hb v18 e19
    refine wp_istore_n (lv2 := [(1, .int v18), (0, .ref x0), (2, .int x2)]) dX12_ways_43 rfl (by decide) rfl ?_
    obtain ⟨v20, e21⟩ : ∃ y : Int32, y = x2 + (1) := ⟨_, rfl⟩
    have hb := hb v20 e21
    refine wp_iinc (v := v20) (lv2 := [(2, .int v20), (1, .int v18), (0, .ref x0)]) 2 dX12_ways_44 rfl (by rw [e21]; rfl) (by decide) rfl ?_
    refine wp_goto (tgt := 24) dX12_ways_47 (by decide) ?_
    exact wp_sub [2, 1, 0] rfl hb
theorem c_X12_ways {l : Launch} {g : AG} {h : AH} {x0 : Nat}  {Q : Int32 → AH → Prop} (hb : L_X12_ways_0 l g h x0  Q) : C_X12_ways l g h x0  Q := ax_met rfl rfl (Nat.le_of_ble_eq_true rfl) hb
def C_X12_push (l : Launch) (g : AG) (h : AH) (x0 : Nat) (x1 : Int32)  (Q : Int32 → AH → Prop) : Prop := Ct l g mX12_push 1 21 194 194 h [.ref x0, .int x1] (ax_QI Q)
def L_X12_push_0 (l : Launch) (g : AG) (h : AH) (x0 : Nat) (x1 : Int32)  (Q : Int32 → AH → Prop) : Prop := Wp l g mX12_push 1 21 194 194 194 0 [(0, .ref x0), (1, .int x1)] [] h (FM g 194 194 (ax_QI Q))
set_option maxRecDepth 100000 in
set_option maxHeartbeats 4000000 in
theorem s_X12_push_0 {l : Launch} {g : AG} {h : AH} {x0 : Nat} {x1 : Int32}  {Q : Int32 → AH → Prop} (hb : (Is 194 x0 11) ∧ ( ∀ h2 : AH, h2 = ax_setI h x0 0 0 → ( C_X12_isAct l g h2 x1 (fun r6 h5 => ( ((¬ r6 = 0 → (((¬ h5.1 x0 40 = 400 → ((Is 194 (h5.2.2 x0 39) 20) ∧ ( (vp_in (h5.1 x0 40) (ax_s (h5.2.2 x0 39)).2) ∧ ( ∀ h11 : AH, h11 = ax_setI h5 (h5.2.2 x0 39) (h5.1 x0 40).toNatClampNeg x1 → ( ∀ h13 : AH, h13 = ax_setI h11 x0 40 ((h11.1 x0 40) + 1) → ( C_X12_done l g h13 x0 (h13.1 x0 40) (fun r17 h16 => ( Q r17 h16)))))))) ∧ (h5.1 x0 40 = 400 → (C_X12_refused l g h5 x0 4 (fun r20 h19 => ( Q r20 h19))))))) ∧ (r6 = 0 → (C_X12_refused l g h5 x0 2 (fun r23 h22 => ( Q r23 h22)))))))))) : L_X12_push_0 l g h x0 x1  Q := by
  obtain ⟨i1, hb⟩ := hb
  refine wp_aload_n 0 dX12_push_0 rfl rfl ?_
  refine wp_iconst (v := 0) dX12_push_1 (by decide) ?_
  refine wp_putI dX12_push_2 fl_X12_1 (Or.inl rfl) i1 ?_
  refine wp_topH (fun h2 e3 => ?_)
  have hb := hb h2 e3
  refine wp_iload_n 1 dX12_push_5 rfl rfl ?_
  refine wp_callS (as := [.int x1]) dX12_push_6 cb_X12_isAct lk_X12_374 st_X12_isAct rfl (Nat.le_of_ble_eq_true rfl) ⟨by decide, by decide⟩ ⟨Nat.le_refl _, Nat.le_refl _, Nat.le_refl _⟩ hb (fun r0 h5 hb => ?_)
  obtain ⟨r6, rfl, hb⟩ := hb
  refine wp_if_ne (tgt := 18) dX12_push_9 (by decide) (fun c7 => ?_) (fun c7 => ?_)
  · have hb := hb.1 c7
    refine wp_aload_n 0 dX12_push_18 rfl rfl ?_
    refine wp_getI dX12_push_19 fl_X12_415 i1 ?_
    refine wp_sipush (v := 400) dX12_push_22 (by decide) ?_
    refine wp_icmp_ne (tgt := 34) dX12_push_25 (by decide) (fun c8 => ?_) (fun c8 => ?_)
    · have hb := hb.1 c8
      refine wp_aload_n 0 dX12_push_34 rfl rfl ?_
      obtain ⟨i9, hb⟩ := hb
      refine wp_getR dX12_push_35 fl_X12_101 i1 (i9.ne (by decide)) ?_
      refine wp_aload_n 0 dX12_push_38 rfl rfl ?_
      refine wp_getI dX12_push_39 fl_X12_415 i1 ?_
      refine wp_iload_n 1 dX12_push_42 rfl rfl ?_
      obtain ⟨b10, hb⟩ := hb
      refine wp_iastore dX12_push_43 i9 b10 ?_
      refine wp_topH (fun h11 e12 => ?_)
      have hb := hb h11 e12
      refine wp_aload_n 0 dX12_push_44 rfl rfl ?_
      refine wp_dup dX12_push_45 rfl ?_
      refine wp_getI dX12_push_46 fl_X12_415 i1 ?_
      refine wp_iconst (v := 1) dX12_push_49 (by decide) ?_
      refine wp_iadd dX12_push_50 ?_
      refine wp_putI dX12_push_51 fl_X12_415 (Or.inl rfl) i1 ?_
      refine wp_topH (fun h13 e14 => ?_)
      have hb := hb h13 e14
      refine wp_aload_n 0 dX12_push_54 rfl rfl ?_
      refine wp_aload_n 0 dX12_push_55 rfl rfl ?_
      refine wp_getI dX12_push_56 fl_X12_415 i1 ?_
      refine wp_callV (as := [.int (h13.1 x0 40)]) dX12_push_59 cb_X12_done lk_X12_337 im_X12_done se_X12_done rfl (Nat.le_of_ble_eq_true rfl) ⟨by decide, by decide⟩ ⟨Nat.le_refl _, Nat.le_refl _, Nat.le_refl _⟩ i1 rfl (by decide) hb (fun r0 h16 hb => ?_)
      obtain ⟨r17, rfl, hb⟩ := hb
      exact wp_iret rfl dX12_push_62 ⟨_, rfl, hb⟩
    · have hb := hb.2 c8
      refine wp_aload_n 0 dX12_push_28 rfl rfl ?_
      refine wp_iconst (v := 4) dX12_push_29 (by decide) ?_
      refine wp_callV (as := [.int 4]) dX12_push_30 cb_X12_refused lk_X12_316 im_X12_refused se_X12_refused rfl (Nat.le_of_ble_eq_true rfl) ⟨by decide, by decide⟩ ⟨Nat.le_refl _, Nat.le_refl _, Nat.le_refl _⟩ i1 rfl (by decide) hb (fun r0 h19 hb => ?_)
      obtain ⟨r20, rfl, hb⟩ := hb
      exact wp_iret rfl dX12_push_33 ⟨_, rfl, hb⟩
  · have hb := hb.2 c7
    refine wp_aload_n 0 dX12_push_12 rfl rfl ?_
    refine wp_iconst (v := 2) dX12_push_13 (by decide) ?_
    refine wp_callV (as := [.int 2]) dX12_push_14 cb_X12_refused lk_X12_316 im_X12_refused se_X12_refused rfl (Nat.le_of_ble_eq_true rfl) ⟨by decide, by decide⟩ ⟨Nat.le_refl _, Nat.le_refl _, Nat.le_refl _⟩ i1 rfl (by decide) hb (fun r0 h22 hb => ?_)
    obtain ⟨r23, rfl, hb⟩ := hb
    exact wp_iret rfl dX12_push_17 ⟨_, rfl, hb⟩
theorem c_X12_push {l : Launch} {g : AG} {h : AH} {x0 : Nat} {x1 : Int32}  {Q : Int32 → AH → Prop} (hb : L_X12_push_0 l g h x0 x1  Q) : C_X12_push l g h x0 x1  Q := ax_met rfl rfl (Nat.le_of_ble_eq_true rfl) hb
def C_X12_cut (l : Launch) (g : AG) (h : AH) (x0 : Nat) (x1 : Int32)  (Q : Int32 → AH → Prop) : Prop := Ct l g mX12_cut 0 0 194 194 h [.ref x0, .int x1] (ax_QI Q)
def L_X12_cut_0 (l : Launch) (g : AG) (h : AH) (x0 : Nat) (x1 : Int32)  (Q : Int32 → AH → Prop) : Prop := Wp l g mX12_cut 0 0 194 194 194 0 [(0, .ref x0), (1, .int x1)] [] h (FM g 194 194 (ax_QI Q))
def L_X12_cut_18 (l : Launch) (g : AG) (h : AH) (x0 : Nat) (x1 : Int32) (s0 : Nat) (Q : Int32 → AH → Prop) : Prop := Wp l g mX12_cut 0 0 194 194 194 18 [(0, .ref x0), (1, .int x1)] [.ref s0] h (FM g 194 194 (ax_QI Q))
def L_X12_cut_23 (l : Launch) (g : AG) (h : AH) (x0 : Nat) (x1 : Int32) (s0 : Int32) (s1 : Nat) (Q : Int32 → AH → Prop) : Prop := Wp l g mX12_cut 0 0 194 194 194 23 [(0, .ref x0), (1, .int x1)] [.int s0, .ref s1] h (FM g 194 194 (ax_QI Q))
def L_X12_cut_43 (l : Launch) (g : AG) (h : AH) (x0 : Nat)  (Q : Int32 → AH → Prop) : Prop := Wp l g mX12_cut 0 0 194 194 194 43 [(0, .ref x0)] [] h (FM g 194 194 (ax_QI Q))
set_option maxRecDepth 100000 in
set_option maxHeartbeats 4000000 in
theorem s_X12_cut_0 {l : Launch} {g : AG} {h : AH} {x0 : Nat} {x1 : Int32}  {Q : Int32 → AH → Prop} (hb : (Is 194 x0 11) ∧ ( ∀ h2 : AH, h2 = ax_setI h x0 0 0 → ( ((x1 < 0 → (L_X12_cut_18 l g h2 x0 x1 x0 Q)) ∧ (¬ (x1 < 0) → (((x1 ≤ h2.1 x0 40 → (L_X12_cut_23 l g h2 x0 x1 0 x0 Q)) ∧ (¬ (x1 ≤ h2.1 x0 40) → (L_X12_cut_18 l g h2 x0 x1 x0 Q))))))))) : L_X12_cut_0 l g h x0 x1  Q := by
  obtain ⟨i1, hb⟩ := hb
  refine wp_aload_n 0 dX12_cut_0 rfl rfl ?_
  refine wp_iconst (v := 0) dX12_cut_1 (by decide) ?_
  refine wp_putI dX12_cut_2 fl_X12_1 (Or.inl rfl) i1 ?_
  refine wp_topH (fun h2 e3 => ?_)
  have hb := hb h2 e3
  refine wp_aload_n 0 dX12_cut_5 rfl rfl ?_
  refine wp_iload_n 1 dX12_cut_6 rfl rfl ?_
  refine wp_if_lt (tgt := 18) dX12_cut_7 (by decide) (fun c4 => ?_) (fun c4 => ?_)
  · have hb := hb.1 c4
    exact hb
  · have hb := hb.2 c4
    refine wp_iload_n 1 dX12_cut_10 rfl rfl ?_
    refine wp_aload_n 0 dX12_cut_11 rfl rfl ?_
    refine wp_getI dX12_cut_12 fl_X12_415 i1 ?_
    refine wp_icmp_le (tgt := 22) dX12_cut_15 (by decide) (fun c5 => ?_) (fun c5 => ?_)
    · have hb := hb.1 c5
      refine wp_iconst (v := 0) dX12_cut_22 (by decide) ?_
      exact hb
    · have hb := hb.2 c5
      exact hb
set_option maxRecDepth 100000 in
set_option maxHeartbeats 4000000 in
theorem s_X12_cut_18 {l : Launch} {g : AG} {h : AH} {x0 : Nat} {x1 : Int32} {s0 : Nat} {Q : Int32 → AH → Prop} (hb : L_X12_cut_23 l g h x0 x1 2 s0 Q) : L_X12_cut_18 l g h x0 x1 s0 Q := by
  refine wp_iconst (v := 2) dX12_cut_18 (by decide) ?_
  refine wp_goto (tgt := 23) dX12_cut_19 (by decide) ?_
  exact hb
set_option maxRecDepth 100000 in
set_option maxHeartbeats 4000000 in
theorem s_X12_cut_23 {l : Launch} {g : AG} {h : AH} {x0 : Nat} {x1 : Int32} {s0 : Int32} {s1 : Nat} {Q : Int32 → AH → Prop} (hb : (Is 194 s1 11) ∧ ( ∀ h7 : AH, h7 = ax_setI h s1 1 s0 → ( (Is 194 x0 11) ∧ ( ∀ h10 : AH, h10 = ax_setI h7 x0 2 (-1) → ( ((¬ h10.1 x0 1 = 0 → (L_X12_cut_43 l g h10 x0  Q)) ∧ (h10.1 x0 1 = 0 → (∀ h13 : AH, h13 = ax_setI h10 x0 40 x1 → ( L_X12_cut_43 l g h13 x0  Q))))))))) : L_X12_cut_23 l g h x0 x1 s0 s1 Q := by
  obtain ⟨i6, hb⟩ := hb
  refine wp_putI dX12_cut_23 fl_X12_7 (Or.inl rfl) i6 ?_
  refine wp_topH (fun h7 e8 => ?_)
  have hb := hb h7 e8
  obtain ⟨i9, hb⟩ := hb
  refine wp_aload_n 0 dX12_cut_26 rfl rfl ?_
  refine wp_iconst (v := (-1)) dX12_cut_27 (by decide) ?_
  refine wp_putI dX12_cut_28 fl_X12_10 (Or.inl rfl) i9 ?_
  refine wp_topH (fun h10 e11 => ?_)
  have hb := hb h10 e11
  refine wp_aload_n 0 dX12_cut_31 rfl rfl ?_
  refine wp_getI dX12_cut_32 fl_X12_7 i9 ?_
  refine wp_if_ne (tgt := 43) dX12_cut_35 (by decide) (fun c12 => ?_) (fun c12 => ?_)
  · have hb := hb.1 c12
    exact wp_sub [0] rfl hb
  · have hb := hb.2 c12
    refine wp_aload_n 0 dX12_cut_38 rfl rfl ?_
    refine wp_iload_n 1 dX12_cut_39 rfl rfl ?_
    refine wp_putI dX12_cut_40 fl_X12_415 (Or.inl rfl) i9 ?_
    refine wp_topH (fun h13 e14 => ?_)
    have hb := hb h13 e14
    exact wp_sub [0] rfl hb
set_option maxRecDepth 100000 in
set_option maxHeartbeats 4000000 in
theorem s_X12_cut_43 {l : Launch} {g : AG} {h : AH} {x0 : Nat}  {Q : Int32 → AH → Prop} (hb : (Is 194 x0 11) ∧ ( ((¬ h.1 x0 1 = 0 → (Q 0 h)) ∧ (h.1 x0 1 = 0 → (Q 1 h))))) : L_X12_cut_43 l g h x0  Q := by
  obtain ⟨i15, hb⟩ := hb
  refine wp_aload_n 0 dX12_cut_43 rfl rfl ?_
  refine wp_getI dX12_cut_44 fl_X12_7 i15 ?_
  refine wp_if_ne (tgt := 54) dX12_cut_47 (by decide) (fun c16 => ?_) (fun c16 => ?_)
  · have hb := hb.1 c16
    refine wp_iconst (v := 0) dX12_cut_54 (by decide) ?_
    exact wp_zret rfl dX12_cut_55 (Or.inl rfl) ⟨_, rfl, hb⟩
  · have hb := hb.2 c16
    refine wp_iconst (v := 1) dX12_cut_50 (by decide) ?_
    refine wp_goto (tgt := 55) dX12_cut_51 (by decide) ?_
    exact wp_zret rfl dX12_cut_55 (Or.inr rfl) ⟨_, rfl, hb⟩
theorem c_X12_cut {l : Launch} {g : AG} {h : AH} {x0 : Nat} {x1 : Int32}  {Q : Int32 → AH → Prop} (hb : L_X12_cut_0 l g h x0 x1  Q) : C_X12_cut l g h x0 x1  Q := ax_met rfl rfl (Nat.le_of_ble_eq_true rfl) hb
def C_X12_comes (l : Launch) (g : AG) (h : AH) (x0 : Nat) (x1 : Nat) (x2 : Int32)  (Q : Int32 → AH → Prop) : Prop := Ct l g mX12_comes 3 69 194 194 h [.ref x0, .ref x1, .int x2] (ax_QI Q)
def L_X12_comes_0 (l : Launch) (g : AG) (h : AH) (x0 : Nat) (x1 : Nat) (x2 : Int32)  (Q : Int32 → AH → Prop) : Prop := Wp l g mX12_comes 3 69 194 194 194 0 [(0, .ref x0), (1, .ref x1), (2, .int x2)] [] h (FM g 194 194 (ax_QI Q))
def L_X12_comes_11 (l : Launch) (g : AG) (h : AH) (x0 : Nat) (x1 : Nat) (x2 : Int32) (x3 : Int32)  (Q : Int32 → AH → Prop) : Prop := Wp l g mX12_comes 3 69 194 194 194 11 [(0, .ref x0), (1, .ref x1), (2, .int x2), (3, .int x3)] [] h (FM g 194 194 (ax_QI Q))
set_option maxRecDepth 100000 in
set_option maxHeartbeats 4000000 in
theorem s_X12_comes_0 {l : Launch} {g : AG} {h : AH} {x0 : Nat} {x1 : Nat} {x2 : Int32}  {Q : Int32 → AH → Prop} (hb : (Is 194 x0 11) ∧ ( C_X12_begins l g h x0 (fun h3 => ( ∀ h4 : AH, h4 = ax_setI h3 x0 42 0 → ( L_X12_comes_11 l g h4 x0 x1 x2 0  Q))))) : L_X12_comes_0 l g h x0 x1 x2  Q := by
  obtain ⟨i1, hb⟩ := hb
  refine wp_aload_n 0 dX12_comes_0 rfl rfl ?_
  refine wp_callV (as := []) dX12_comes_1 cb_X12_begins lk_X12_324 im_X12_begins se_X12_begins rfl (Nat.le_of_ble_eq_true rfl) ⟨by decide, by decide⟩ ⟨Nat.le_refl _, Nat.le_refl _, Nat.le_refl _⟩ i1 rfl (by decide) hb (fun r0 h3 hb => ?_)
  obtain ⟨rfl, hb⟩ := hb
  refine wp_aload_n 0 dX12_comes_4 rfl rfl ?_
  refine wp_iconst (v := 0) dX12_comes_5 (by decide) ?_
  refine wp_putI dX12_comes_6 fl_X12_418 (Or.inl rfl) i1 ?_
  refine wp_topH (fun h4 e5 => ?_)
  have hb := hb h4 e5
  refine wp_iconst (v := 0) dX12_comes_9 (by decide) ?_
  refine wp_istore_n (lv2 := [(3, .int 0), (0, .ref x0), (1, .ref x1), (2, .int x2)]) dX12_comes_10 rfl (by decide) rfl ?_
  exact wp_sub [1, 2, 3, 0] rfl hb
set_option maxRecDepth 100000 in
set_option maxHeartbeats 4000000 in
theorem s_X12_comes_11 {l : Launch} {g : AG} {h : AH} {x0 : Nat} {x1 : Nat} {x2 : Int32} {x3 : Int32}  {Q : Int32 → AH → Prop} (hb : (Is 194 x0 11) ∧ ( ((h.1 x0 40 ≤ x3 → (Q (h.1 x0 19) h)) ∧ (¬ (h.1 x0 40 ≤ x3) → (((¬ h.1 x0 19 = 0 → (Q (h.1 x0 19) h)) ∧ (h.1 x0 19 = 0 → (∀ h9 : AH, h9 = ax_setI h x0 42 ((h.1 x0 42) + 1) → ( ((x3 = x2 → (∀ v12 : Int32, v12 = x3 + (1) → ( L_X12_comes_11 l g h9 x0 x1 x2 v12  Q))) ∧ (¬ (x3 = x2) → ((Is 194 (h9.2.2 x0 39) 20) ∧ ( (vp_in x3 (ax_s (h9.2.2 x0 39)).2) ∧ ( C_X12_isAct l g h9 (h9.1 (h9.2.2 x0 39) x3.toNatClampNeg) (fun r18 h17 => ( ((r18 = 0 → (∀ v20 : Int32, v20 = x3 + (1) → ( L_X12_comes_11 l g h17 x0 x1 x2 v20  Q))) ∧ (¬ (r18 = 0) → ((Is 194 x1 9) ∧ ( C_X12_possible l g h17 x0 x1 (fun r25 h24 => ( (Is 194 (h24.2.2 x0 39) 20) ∧ ( (vp_in x3 (ax_s (h24.2.2 x0 39)).2) ∧ ( ∀ v28 : Int32, v28 = (jishr r25 (h24.1 (h24.2.2 x0 39) x3.toNatClampNeg)) → ( ((¬ v28 &&& 1 = 1 → (∀ v31 : Int32, v31 = x3 + (1) → ( L_X12_comes_11 l g h24 x0 x1 x2 v31  Q))) ∧ (v28 &&& 1 = 1 → ((Is 194 (h24.2.2 x0 39) 20) ∧ ( (vp_in x3 (ax_s (h24.2.2 x0 39)).2) ∧ ( C_X12_acts l g h24 x0 x1 (h24.1 (h24.2.2 x0 39) x3.toNatClampNeg) (fun h36 => ( ∀ v37 : Int32, v37 = x3 + (1) → ( L_X12_comes_11 l g h36 x0 x1 x2 v37  Q))))))))))))))))))))))))))))))))) : L_X12_comes_11 l g h x0 x1 x2 x3  Q := by
  refine wp_iload_n 3 dX12_comes_11 rfl rfl ?_
  obtain ⟨i6, hb⟩ := hb
  refine wp_aload_n 0 dX12_comes_12 rfl rfl ?_
  refine wp_getI dX12_comes_13 fl_X12_415 i6 ?_
  refine wp_icmp_ge (tgt := 88) dX12_comes_16 (by decide) (fun c7 => ?_) (fun c7 => ?_)
  · have hb := hb.1 c7
    refine wp_aload_n 0 dX12_comes_88 rfl rfl ?_
    refine wp_getI dX12_comes_89 fl_X12_343 i6 ?_
    exact wp_iret rfl dX12_comes_92 ⟨_, rfl, hb⟩
  · have hb := hb.2 c7
    refine wp_aload_n 0 dX12_comes_19 rfl rfl ?_
    refine wp_getI dX12_comes_20 fl_X12_343 i6 ?_
    refine wp_if_ne (tgt := 88) dX12_comes_23 (by decide) (fun c8 => ?_) (fun c8 => ?_)
    · have hb := hb.1 c8
      refine wp_aload_n 0 dX12_comes_88 rfl rfl ?_
      refine wp_getI dX12_comes_89 fl_X12_343 i6 ?_
      exact wp_iret rfl dX12_comes_92 ⟨_, rfl, hb⟩
    · have hb := hb.2 c8
      refine wp_aload_n 0 dX12_comes_26 rfl rfl ?_
      refine wp_dup dX12_comes_27 rfl ?_
      refine wp_getI dX12_comes_28 fl_X12_418 i6 ?_
      refine wp_iconst (v := 1) dX12_comes_31 (by decide) ?_
      refine wp_iadd dX12_comes_32 ?_
      refine wp_putI dX12_comes_33 fl_X12_418 (Or.inl rfl) i6 ?_
      refine wp_topH (fun h9 e10 => ?_)
      have hb := hb h9 e10
      refine wp_iload_n 3 dX12_comes_36 rfl rfl ?_
      refine wp_iload_n 2 dX12_comes_37 rfl rfl ?_
      refine wp_icmp_eq (tgt := 82) dX12_comes_38 (by decide) (fun c11 => ?_) (fun c11 => ?_)
      · have hb := hb.1 c11
        obtain ⟨v12, e13⟩ : ∃ y : Int32, y = x3 + (1) := ⟨_, rfl⟩
        have hb := hb v12 e13
        refine wp_iinc (v := v12) (lv2 := [(3, .int v12), (0, .ref x0), (1, .ref x1), (2, .int x2)]) 3 dX12_comes_82 rfl (by rw [e13]; rfl) (by decide) rfl ?_
        refine wp_goto (tgt := 11) dX12_comes_85 (by decide) ?_
        exact wp_sub [1, 2, 3, 0] rfl hb
      · have hb := hb.2 c11
        refine wp_aload_n 0 dX12_comes_41 rfl rfl ?_
        obtain ⟨i14, hb⟩ := hb
        refine wp_getR dX12_comes_42 fl_X12_101 i6 (i14.ne (by decide)) ?_
        refine wp_iload_n 3 dX12_comes_45 rfl rfl ?_
        obtain ⟨b15, hb⟩ := hb
        refine wp_iaload dX12_comes_46 i14 b15 ?_
        refine wp_callS (as := [.int (h9.1 (h9.2.2 x0 39) x3.toNatClampNeg)]) dX12_comes_47 cb_X12_isAct lk_X12_374 st_X12_isAct rfl (Nat.le_of_ble_eq_true rfl) ⟨by decide, by decide⟩ ⟨Nat.le_refl _, Nat.le_refl _, Nat.le_refl _⟩ hb (fun r0 h17 hb => ?_)
        obtain ⟨r18, rfl, hb⟩ := hb
        refine wp_if_eq (tgt := 82) dX12_comes_50 (by decide) (fun c19 => ?_) (fun c19 => ?_)
        · have hb := hb.1 c19
          obtain ⟨v20, e21⟩ : ∃ y : Int32, y = x3 + (1) := ⟨_, rfl⟩
          have hb := hb v20 e21
          refine wp_iinc (v := v20) (lv2 := [(3, .int v20), (0, .ref x0), (1, .ref x1), (2, .int x2)]) 3 dX12_comes_82 rfl (by rw [e21]; rfl) (by decide) rfl ?_
          refine wp_goto (tgt := 11) dX12_comes_85 (by decide) ?_
          exact wp_sub [1, 2, 3, 0] rfl hb
        · have hb := hb.2 c19
          refine wp_aload_n 0 dX12_comes_53 rfl rfl ?_
          obtain ⟨i22, hb⟩ := hb
          refine wp_aload_n 1 dX12_comes_54 rfl rfl ?_
          refine wp_callV (as := [.ref x1]) dX12_comes_55 cb_X12_possible lk_X12_381 im_X12_possible se_X12_possible rfl (Nat.le_of_ble_eq_true rfl) ⟨by decide, by decide⟩ ⟨Nat.le_refl _, Nat.le_refl _, Nat.le_refl _⟩ i6 rfl (by decide) hb (fun r0 h24 hb => ?_)
          obtain ⟨r25, rfl, hb⟩ := hb
          refine wp_aload_n 0 dX12_comes_58 rfl rfl ?_
          obtain ⟨i26, hb⟩ := hb
          refine wp_getR dX12_comes_59 fl_X12_101 i6 (i26.ne (by decide)) ?_
          refine wp_iload_n 3 dX12_comes_62 rfl rfl ?_
          obtain ⟨b27, hb⟩ := hb
          refine wp_iaload dX12_comes_63 i26 b27 ?_
          refine wp_ishr dX12_comes_64 ?_
          refine wp_topi (fun v28 e29 => ?_)
          have hb := hb v28 e29
          refine wp_iconst (v := 1) dX12_comes_65 (by decide) ?_
          refine wp_iand dX12_comes_66 ?_
          refine wp_iconst (v := 1) dX12_comes_67 (by decide) ?_
          refine wp_icmp_ne (tgt := 82) dX12_comes_68 (by decide) (fun c30 => ?_) (fun c30 => ?_)
          · have hb := hb.1 c30
            obtain ⟨v31, e32⟩ : ∃ y : Int32, y = x3 + (1) := ⟨_, rfl⟩
            have hb := hb v31 e32
            refine wp_iinc (v := v31) (lv2 := [(3, .int v31), (0, .ref x0), (1, .ref x1), (2, .int x2)]) 3 dX12_comes_82 rfl (by rw [e32]; rfl) (by decide) rfl ?_
            refine wp_goto (tgt := 11) dX12_comes_85 (by decide) ?_
            exact wp_sub [1, 2, 3, 0] rfl hb
          · have hb := hb.2 c30
            refine wp_aload_n 0 dX12_comes_71 rfl rfl ?_
            refine wp_aload_n 1 dX12_comes_72 rfl rfl ?_
            refine wp_aload_n 0 dX12_comes_73 rfl rfl ?_
            obtain ⟨i33, hb⟩ := hb
            refine wp_getR dX12_comes_74 fl_X12_101 i6 (i33.ne (by decide)) ?_
            refine wp_iload_n 3 dX12_comes_77 rfl rfl ?_
            obtain ⟨b34, hb⟩ := hb
            refine wp_iaload dX12_comes_78 i33 b34 ?_
            refine wp_callV (as := [.ref x1, .int (h24.1 (h24.2.2 x0 39) x3.toNatClampNeg)]) dX12_comes_79 cb_X12_acts lk_X12_384 im_X12_acts se_X12_acts rfl (Nat.le_of_ble_eq_true rfl) ⟨by decide, by decide⟩ ⟨Nat.le_refl _, Nat.le_refl _, Nat.le_refl _⟩ i6 rfl (by decide) hb (fun r0 h36 hb => ?_)
            obtain ⟨rfl, hb⟩ := hb
            obtain ⟨v37, e38⟩ : ∃ y : Int32, y = x3 + (1) := ⟨_, rfl⟩
            have hb := hb v37 e38
            refine wp_iinc (v := v37) (lv2 := [(3, .int v37), (0, .ref x0), (1, .ref x1), (2, .int x2)]) 3 dX12_comes_82 rfl (by rw [e38]; rfl) (by decide) rfl ?_
            refine wp_goto (tgt := 11) dX12_comes_85 (by decide) ?_
            exact wp_sub [1, 2, 3, 0] rfl hb
theorem c_X12_comes {l : Launch} {g : AG} {h : AH} {x0 : Nat} {x1 : Nat} {x2 : Int32}  {Q : Int32 → AH → Prop} (hb : L_X12_comes_0 l g h x0 x1 x2  Q) : C_X12_comes l g h x0 x1 x2  Q := ax_met rfl rfl (Nat.le_of_ble_eq_true rfl) hb
def C_X12_tryRow (l : Launch) (g : AG) (h : AH) (x0 : Nat) (x1 : Int32)  (Q : Int32 → AH → Prop) : Prop := Ct l g mX12_tryRow 4 92 194 194 h [.ref x0, .int x1] (ax_QI Q)
def L_X12_tryRow_0 (l : Launch) (g : AG) (h : AH) (x0 : Nat) (x1 : Int32)  (Q : Int32 → AH → Prop) : Prop := Wp l g mX12_tryRow 4 92 194 194 194 0 [(0, .ref x0), (1, .int x1)] [] h (FM g 194 194 (ax_QI Q))
set_option maxRecDepth 100000 in
set_option maxHeartbeats 4000000 in
theorem s_X12_tryRow_0 {l : Launch} {g : AG} {h : AH} {x0 : Nat} {x1 : Int32}  {Q : Int32 → AH → Prop} (hb : (Is 194 x0 11) ∧ ( ∀ h2 : AH, h2 = ax_setI h x0 0 0 → ( C_X12_isApp l g h2 x0 x1 (fun r6 h5 => ( ((¬ r6 = 0 → ((Is 194 (h5.2.2 x0 4) 25) ∧ ( (vp_in x1 (ax_s (h5.2.2 x0 4)).2) ∧ ( (Is 194 (h5.2.2 (h5.2.2 x0 4) x1.toNatClampNeg) 9) ∧ ( C_X12_comes l g h5 x0 (h5.2.2 (h5.2.2 x0 4) x1.toNatClampNeg) (-1) (fun r13 h12 => ( ∀ h14 : AH, h14 = ax_setI h12 x0 41 (h12.1 x0 42) → ( C_X12_done l g h14 x0 r13 (fun r18 h17 => ( Q r18 h17)))))))))) ∧ (r6 = 0 → (C_X12_refused l g h5 x0 1 (fun r21 h20 => ( Q r21 h20)))))))))) : L_X12_tryRow_0 l g h x0 x1  Q := by
  obtain ⟨i1, hb⟩ := hb
  refine wp_aload_n 0 dX12_tryRow_0 rfl rfl ?_
  refine wp_iconst (v := 0) dX12_tryRow_1 (by decide) ?_
  refine wp_putI dX12_tryRow_2 fl_X12_1 (Or.inl rfl) i1 ?_
  refine wp_topH (fun h2 e3 => ?_)
  have hb := hb h2 e3
  refine wp_aload_n 0 dX12_tryRow_5 rfl rfl ?_
  refine wp_iload_n 1 dX12_tryRow_6 rfl rfl ?_
  refine wp_callV (as := [.int x1]) dX12_tryRow_7 cb_X12_isApp lk_X12_340 im_X12_isApp se_X12_isApp rfl (Nat.le_of_ble_eq_true rfl) ⟨by decide, by decide⟩ ⟨Nat.le_refl _, Nat.le_refl _, Nat.le_refl _⟩ i1 rfl (by decide) hb (fun r0 h5 hb => ?_)
  obtain ⟨r6, rfl, hb⟩ := hb
  refine wp_if_ne (tgt := 19) dX12_tryRow_10 (by decide) (fun c7 => ?_) (fun c7 => ?_)
  · have hb := hb.1 c7
    refine wp_aload_n 0 dX12_tryRow_19 rfl rfl ?_
    refine wp_aload_n 0 dX12_tryRow_20 rfl rfl ?_
    obtain ⟨i8, hb⟩ := hb
    refine wp_getR dX12_tryRow_21 fl_X12_21 i1 (i8.ne (by decide)) ?_
    refine wp_iload_n 1 dX12_tryRow_24 rfl rfl ?_
    obtain ⟨b9, hb⟩ := hb
    obtain ⟨i10, hb⟩ := hb
    refine wp_aaload25 dX12_tryRow_25 i8 b9 (i10.ne (by decide)) ?_
    refine wp_iconst (v := (-1)) dX12_tryRow_26 (by decide) ?_
    refine wp_callV (as := [.ref (h5.2.2 (h5.2.2 x0 4) x1.toNatClampNeg), .int (-1)]) dX12_tryRow_27 cb_X12_comes lk_X12_421 im_X12_comes se_X12_comes rfl (Nat.le_of_ble_eq_true rfl) ⟨by decide, by decide⟩ ⟨Nat.le_refl _, Nat.le_refl _, Nat.le_refl _⟩ i1 rfl (by decide) hb (fun r0 h12 hb => ?_)
    obtain ⟨r13, rfl, hb⟩ := hb
    refine wp_istore_n (lv2 := [(2, .int r13), (0, .ref x0), (1, .int x1)]) dX12_tryRow_30 rfl (by decide) rfl ?_
    refine wp_aload_n 1 dX12_tryRow_31 rfl rfl ?_
    refine wp_aload_n 1 dX12_tryRow_32 rfl rfl ?_
    refine wp_getI dX12_tryRow_33 fl_X12_418 i1 ?_
    refine wp_putI dX12_tryRow_36 fl_X12_104 (Or.inl rfl) i1 ?_
    refine wp_topH (fun h14 e15 => ?_)
    have hb := hb h14 e15
    refine wp_aload_n 1 dX12_tryRow_39 rfl rfl ?_
    refine wp_iload_n 0 dX12_tryRow_40 rfl rfl ?_
    refine wp_callV (as := [.int r13]) dX12_tryRow_41 cb_X12_done lk_X12_337 im_X12_done se_X12_done rfl (Nat.le_of_ble_eq_true rfl) ⟨by decide, by decide⟩ ⟨Nat.le_refl _, Nat.le_refl _, Nat.le_refl _⟩ i1 rfl (by decide) hb (fun r0 h17 hb => ?_)
    obtain ⟨r18, rfl, hb⟩ := hb
    exact wp_iret rfl dX12_tryRow_44 ⟨_, rfl, hb⟩
  · have hb := hb.2 c7
    refine wp_aload_n 0 dX12_tryRow_13 rfl rfl ?_
    refine wp_iconst (v := 1) dX12_tryRow_14 (by decide) ?_
    refine wp_callV (as := [.int 1]) dX12_tryRow_15 cb_X12_refused lk_X12_316 im_X12_refused se_X12_refused rfl (Nat.le_of_ble_eq_true rfl) ⟨by decide, by decide⟩ ⟨Nat.le_refl _, Nat.le_refl _, Nat.le_refl _⟩ i1 rfl (by decide) hb (fun r0 h20 hb => ?_)
    obtain ⟨r21, rfl, hb⟩ := hb
    exact wp_iret rfl dX12_tryRow_18 ⟨_, rfl, hb⟩
theorem c_X12_tryRow {l : Launch} {g : AG} {h : AH} {x0 : Nat} {x1 : Int32}  {Q : Int32 → AH → Prop} (hb : L_X12_tryRow_0 l g h x0 x1  Q) : C_X12_tryRow l g h x0 x1  Q := ax_met rfl rfl (Nat.le_of_ble_eq_true rfl) hb
def C_X12_tried (l : Launch) (g : AG) (h : AH) (x0 : Nat)  (Q : Int32 → AH → Prop) : Prop := Ct l g mX12_tried 0 0 194 194 h [.ref x0] (ax_QI Q)
def L_X12_tried_0 (l : Launch) (g : AG) (h : AH) (x0 : Nat)  (Q : Int32 → AH → Prop) : Prop := Wp l g mX12_tried 0 0 194 194 194 0 [(0, .ref x0)] [] h (FM g 194 194 (ax_QI Q))
set_option maxRecDepth 100000 in
set_option maxHeartbeats 4000000 in
theorem s_X12_tried_0 {l : Launch} {g : AG} {h : AH} {x0 : Nat}  {Q : Int32 → AH → Prop} (hb : (Is 194 x0 11) ∧ ( ∀ h2 : AH, h2 = ax_setI h x0 0 0 → ( Q (h2.1 x0 41) h2))) : L_X12_tried_0 l g h x0  Q := by
  obtain ⟨i1, hb⟩ := hb
  refine wp_aload_n 0 dX12_tried_0 rfl rfl ?_
  refine wp_iconst (v := 0) dX12_tried_1 (by decide) ?_
  refine wp_putI dX12_tried_2 fl_X12_1 (Or.inl rfl) i1 ?_
  refine wp_topH (fun h2 e3 => ?_)
  have hb := hb h2 e3
  refine wp_aload_n 0 dX12_tried_5 rfl rfl ?_
  refine wp_getI dX12_tried_6 fl_X12_104 i1 ?_
  exact wp_iret rfl dX12_tried_9 ⟨_, rfl, hb⟩
theorem c_X12_tried {l : Launch} {g : AG} {h : AH} {x0 : Nat}  {Q : Int32 → AH → Prop} (hb : L_X12_tried_0 l g h x0  Q) : C_X12_tried l g h x0  Q := ax_met rfl rfl (Nat.le_of_ble_eq_true rfl) hb
def C_X12_shorter (l : Launch) (g : AG) (h : AH) (x0 : Nat) (x1 : Int32)  (Q : Int32 → AH → Prop) : Prop := Ct l g mX12_shorter 4 92 194 194 h [.ref x0, .int x1] (ax_QI Q)
def L_X12_shorter_0 (l : Launch) (g : AG) (h : AH) (x0 : Nat) (x1 : Int32)  (Q : Int32 → AH → Prop) : Prop := Wp l g mX12_shorter 4 92 194 194 194 0 [(0, .ref x0), (1, .int x1)] [] h (FM g 194 194 (ax_QI Q))
def L_X12_shorter_51 (l : Launch) (g : AG) (h : AH) (x0 : Nat) (x1 : Int32) (x2 : Int32) (x3 : Int32)  (Q : Int32 → AH → Prop) : Prop := Wp l g mX12_shorter 4 92 194 194 194 51 [(0, .ref x0), (1, .int x1), (2, .int x2), (3, .int x3)] [] h (FM g 194 194 (ax_QI Q))
def L_X12_shorter_65 (l : Launch) (g : AG) (h : AH) (x0 : Nat) (x1 : Int32) (x2 : Int32) (x3 : Int32) (x4 : Int32)  (Q : Int32 → AH → Prop) : Prop := Wp l g mX12_shorter 4 92 194 194 194 65 [(0, .ref x0), (1, .int x1), (2, .int x2), (3, .int x3), (4, .int x4)] [] h (FM g 194 194 (ax_QI Q))
def L_X12_shorter_95 (l : Launch) (g : AG) (h : AH) (x0 : Nat) (x1 : Int32) (x2 : Int32) (x4 : Int32) (x5 : Int32)  (Q : Int32 → AH → Prop) : Prop := Wp l g mX12_shorter 4 92 194 194 194 95 [(0, .ref x0), (1, .int x1), (2, .int x2), (4, .int x4), (5, .int x5)] [] h (FM g 194 194 (ax_QI Q))
set_option maxRecDepth 100000 in
set_option maxHeartbeats 4000000 in
theorem s_X12_shorter_0 {l : Launch} {g : AG} {h : AH} {x0 : Nat} {x1 : Int32}  {Q : Int32 → AH → Prop} (hb : (Is 194 x0 11) ∧ ( ∀ h2 : AH, h2 = ax_setI h x0 0 0 → ( C_X12_isApp l g h2 x0 x1 (fun r6 h5 => ( ((¬ r6 = 0 → ((Is 194 (h5.2.2 x0 4) 25) ∧ ( (vp_in x1 (ax_s (h5.2.2 x0 4)).2) ∧ ( (Is 194 (h5.2.2 (h5.2.2 x0 4) x1.toNatClampNeg) 9) ∧ ( C_X12_comes l g h5 x0 (h5.2.2 (h5.2.2 x0 4) x1.toNatClampNeg) (-1) (fun r13 h12 => ( ((¬ r13 = 0 → (∀ h15 : AH, h15 = ax_setI h12 x0 40 (h12.1 x0 42) → ( L_X12_shorter_51 l g h15 x0 x1 r13 1  Q))) ∧ (r13 = 0 → (C_X12_refused l g h12 x0 4 (fun r19 h18 => ( Q r19 h18)))))))))))) ∧ (r6 = 0 → (C_X12_refused l g h5 x0 1 (fun r22 h21 => ( Q r22 h21)))))))))) : L_X12_shorter_0 l g h x0 x1  Q := by
  obtain ⟨i1, hb⟩ := hb
  refine wp_aload_n 0 dX12_shorter_0 rfl rfl ?_
  refine wp_iconst (v := 0) dX12_shorter_1 (by decide) ?_
  refine wp_putI dX12_shorter_2 fl_X12_1 (Or.inl rfl) i1 ?_
  refine wp_topH (fun h2 e3 => ?_)
  have hb := hb h2 e3
  refine wp_aload_n 0 dX12_shorter_5 rfl rfl ?_
  refine wp_iload_n 1 dX12_shorter_6 rfl rfl ?_
  refine wp_callV (as := [.int x1]) dX12_shorter_7 cb_X12_isApp lk_X12_340 im_X12_isApp se_X12_isApp rfl (Nat.le_of_ble_eq_true rfl) ⟨by decide, by decide⟩ ⟨Nat.le_refl _, Nat.le_refl _, Nat.le_refl _⟩ i1 rfl (by decide) hb (fun r0 h5 hb => ?_)
  obtain ⟨r6, rfl, hb⟩ := hb
  refine wp_if_ne (tgt := 19) dX12_shorter_10 (by decide) (fun c7 => ?_) (fun c7 => ?_)
  · have hb := hb.1 c7
    refine wp_aload_n 0 dX12_shorter_19 rfl rfl ?_
    refine wp_aload_n 0 dX12_shorter_20 rfl rfl ?_
    obtain ⟨i8, hb⟩ := hb
    refine wp_getR dX12_shorter_21 fl_X12_21 i1 (i8.ne (by decide)) ?_
    refine wp_iload_n 1 dX12_shorter_24 rfl rfl ?_
    obtain ⟨b9, hb⟩ := hb
    obtain ⟨i10, hb⟩ := hb
    refine wp_aaload25 dX12_shorter_25 i8 b9 (i10.ne (by decide)) ?_
    refine wp_iconst (v := (-1)) dX12_shorter_26 (by decide) ?_
    refine wp_callV (as := [.ref (h5.2.2 (h5.2.2 x0 4) x1.toNatClampNeg), .int (-1)]) dX12_shorter_27 cb_X12_comes lk_X12_421 im_X12_comes se_X12_comes rfl (Nat.le_of_ble_eq_true rfl) ⟨by decide, by decide⟩ ⟨Nat.le_refl _, Nat.le_refl _, Nat.le_refl _⟩ i1 rfl (by decide) hb (fun r0 h12 hb => ?_)
    obtain ⟨r13, rfl, hb⟩ := hb
    refine wp_istore_n (lv2 := [(2, .int r13), (0, .ref x0), (1, .int x1)]) dX12_shorter_30 rfl (by decide) rfl ?_
    refine wp_iload_n 0 dX12_shorter_31 rfl rfl ?_
    refine wp_if_ne (tgt := 41) dX12_shorter_32 (by decide) (fun c14 => ?_) (fun c14 => ?_)
    · have hb := hb.1 c14
      refine wp_aload_n 1 dX12_shorter_41 rfl rfl ?_
      refine wp_aload_n 1 dX12_shorter_42 rfl rfl ?_
      refine wp_getI dX12_shorter_43 fl_X12_418 i1 ?_
      refine wp_putI dX12_shorter_46 fl_X12_415 (Or.inl rfl) i1 ?_
      refine wp_topH (fun h15 e16 => ?_)
      have hb := hb h15 e16
      refine wp_iconst (v := 1) dX12_shorter_49 (by decide) ?_
      refine wp_istore_n (lv2 := [(3, .int 1), (2, .int r13), (0, .ref x0), (1, .int x1)]) dX12_shorter_50 rfl (by decide) rfl ?_
      exact wp_sub [2, 3, 1, 0] rfl hb
    · have hb := hb.2 c14
      refine wp_aload_n 1 dX12_shorter_35 rfl rfl ?_
      refine wp_iconst (v := 4) dX12_shorter_36 (by decide) ?_
      refine wp_callV (as := [.int 4]) dX12_shorter_37 cb_X12_refused lk_X12_316 im_X12_refused se_X12_refused rfl (Nat.le_of_ble_eq_true rfl) ⟨by decide, by decide⟩ ⟨Nat.le_refl _, Nat.le_refl _, Nat.le_refl _⟩ i1 rfl (by decide) hb (fun r0 h18 hb => ?_)
      obtain ⟨r19, rfl, hb⟩ := hb
      exact wp_iret rfl dX12_shorter_40 ⟨_, rfl, hb⟩
  · have hb := hb.2 c7
    refine wp_aload_n 0 dX12_shorter_13 rfl rfl ?_
    refine wp_iconst (v := 1) dX12_shorter_14 (by decide) ?_
    refine wp_callV (as := [.int 1]) dX12_shorter_15 cb_X12_refused lk_X12_316 im_X12_refused se_X12_refused rfl (Nat.le_of_ble_eq_true rfl) ⟨by decide, by decide⟩ ⟨Nat.le_refl _, Nat.le_refl _, Nat.le_refl _⟩ i1 rfl (by decide) hb (fun r0 h21 hb => ?_)
    obtain ⟨r22, rfl, hb⟩ := hb
    exact wp_iret rfl dX12_shorter_18 ⟨_, rfl, hb⟩
set_option maxRecDepth 100000 in
set_option maxHeartbeats 4000000 in
theorem s_X12_shorter_51 {l : Launch} {g : AG} {h : AH} {x0 : Nat} {x1 : Int32} {x2 : Int32} {x3 : Int32}  {Q : Int32 → AH → Prop} (hb : ((x3 = 0 → ((Is 194 x0 11) ∧ ( C_X12_done l g h x0 (h.1 x0 40) (fun r27 h26 => ( Q r27 h26))))) ∧ (¬ (x3 = 0) → ((Is 194 x0 11) ∧ ( ∀ v29 : Int32, v29 = ((h.1 x0 40) - 1) → ( L_X12_shorter_65 l g h x0 x1 x2 0 v29  Q)))))) : L_X12_shorter_51 l g h x0 x1 x2 x3  Q := by
  refine wp_iload_n 3 dX12_shorter_51 rfl rfl ?_
  refine wp_if_eq (tgt := 147) dX12_shorter_52 (by decide) (fun c23 => ?_) (fun c23 => ?_)
  · have hb := hb.1 c23
    obtain ⟨i24, hb⟩ := hb
    refine wp_aload_n 0 dX12_shorter_147 rfl rfl ?_
    refine wp_aload_n 0 dX12_shorter_148 rfl rfl ?_
    refine wp_getI dX12_shorter_149 fl_X12_415 i24 ?_
    refine wp_callV (as := [.int (h.1 x0 40)]) dX12_shorter_152 cb_X12_done lk_X12_337 im_X12_done se_X12_done rfl (Nat.le_of_ble_eq_true rfl) ⟨by decide, by decide⟩ ⟨Nat.le_refl _, Nat.le_refl _, Nat.le_refl _⟩ i24 rfl (by decide) hb (fun r0 h26 hb => ?_)
    obtain ⟨r27, rfl, hb⟩ := hb
    exact wp_iret rfl dX12_shorter_155 ⟨_, rfl, hb⟩
  · have hb := hb.2 c23
    refine wp_iconst (v := 0) dX12_shorter_55 (by decide) ?_
    refine wp_istore_n (lv2 := [(3, .int 0), (0, .ref x0), (1, .int x1), (2, .int x2)]) dX12_shorter_56 rfl (by decide) rfl ?_
    obtain ⟨i28, hb⟩ := hb
    refine wp_aload_n 1 dX12_shorter_57 rfl rfl ?_
    refine wp_getI dX12_shorter_58 fl_X12_415 i28 ?_
    refine wp_iconst (v := 1) dX12_shorter_61 (by decide) ?_
    refine wp_isub dX12_shorter_62 ?_
    refine wp_topi (fun v29 e30 => ?_)
    have hb := hb v29 e30
    refine wp_istore (lv2 := [(4, .int v29), (3, .int 0), (0, .ref x0), (1, .int x1), (2, .int x2)]) dX12_shorter_63 (by decide) rfl ?_
    exact wp_sub [2, 3, 4, 1, 0] rfl hb
set_option maxRecDepth 100000 in
set_option maxHeartbeats 4000000 in
theorem s_X12_shorter_65 {l : Launch} {g : AG} {h : AH} {x0 : Nat} {x1 : Int32} {x2 : Int32} {x3 : Int32} {x4 : Int32}  {Q : Int32 → AH → Prop} (hb : ((x4 < 0 → (L_X12_shorter_51 l g h x0 x1 x2 x3  Q)) ∧ (¬ (x4 < 0) → ((Is 194 x0 11) ∧ ( (Is 194 (h.2.2 x0 4) 25) ∧ ( (vp_in x1 (ax_s (h.2.2 x0 4)).2) ∧ ( (Is 194 (h.2.2 (h.2.2 x0 4) x1.toNatClampNeg) 9) ∧ ( C_X12_comes l g h x0 (h.2.2 (h.2.2 x0 4) x1.toNatClampNeg) x4 (fun r38 h37 => ( ((r38 = x2 → (∀ v40 : Int32, v40 = (x4 + 1) → ( L_X12_shorter_95 l g h37 x0 x1 x2 x4 v40  Q))) ∧ (¬ (r38 = x2) → (∀ v42 : Int32, v42 = x4 + (-1) → ( L_X12_shorter_65 l g h37 x0 x1 x2 x3 v42  Q)))))))))))))) : L_X12_shorter_65 l g h x0 x1 x2 x3 x4  Q := by
  refine wp_iload 4 dX12_shorter_65 rfl ?_
  refine wp_if_lt (tgt := 144) dX12_shorter_67 (by decide) (fun c31 => ?_) (fun c31 => ?_)
  · have hb := hb.1 c31
    refine wp_goto (tgt := 51) dX12_shorter_144 (by decide) ?_
    exact wp_sub [0, 1, 2, 3] rfl hb
  · have hb := hb.2 c31
    obtain ⟨i32, hb⟩ := hb
    refine wp_aload_n 0 dX12_shorter_70 rfl rfl ?_
    refine wp_aload_n 0 dX12_shorter_71 rfl rfl ?_
    obtain ⟨i33, hb⟩ := hb
    refine wp_getR dX12_shorter_72 fl_X12_21 i32 (i33.ne (by decide)) ?_
    refine wp_iload_n 1 dX12_shorter_75 rfl rfl ?_
    obtain ⟨b34, hb⟩ := hb
    obtain ⟨i35, hb⟩ := hb
    refine wp_aaload25 dX12_shorter_76 i33 b34 (i35.ne (by decide)) ?_
    refine wp_iload 4 dX12_shorter_77 rfl ?_
    refine wp_callV (as := [.ref (h.2.2 (h.2.2 x0 4) x1.toNatClampNeg), .int x4]) dX12_shorter_79 cb_X12_comes lk_X12_421 im_X12_comes se_X12_comes rfl (Nat.le_of_ble_eq_true rfl) ⟨by decide, by decide⟩ ⟨Nat.le_refl _, Nat.le_refl _, Nat.le_refl _⟩ i32 rfl (by decide) hb (fun r0 h37 hb => ?_)
    obtain ⟨r38, rfl, hb⟩ := hb
    refine wp_iload_n 2 dX12_shorter_82 rfl rfl ?_
    refine wp_icmp_eq (tgt := 89) dX12_shorter_83 (by decide) (fun c39 => ?_) (fun c39 => ?_)
    · have hb := hb.1 c39
      refine wp_iload 4 dX12_shorter_89 rfl ?_
      refine wp_iconst (v := 1) dX12_shorter_91 (by decide) ?_
      refine wp_iadd dX12_shorter_92 ?_
      refine wp_topi (fun v40 e41 => ?_)
      have hb := hb v40 e41
      refine wp_istore (lv2 := [(5, .int v40), (0, .ref x0), (1, .int x1), (2, .int x2), (3, .int x3), (4, .int x4)]) dX12_shorter_93 (by decide) rfl ?_
      exact wp_sub [1, 2, 3, 5, 0] rfl hb
    · have hb := hb.2 c39
      refine wp_goto (tgt := 138) dX12_shorter_86 (by decide) ?_
      obtain ⟨v42, e43⟩ : ∃ y : Int32, y = x4 + (-1) := ⟨_, rfl⟩
      have hb := hb v42 e43
      refine wp_iinc (v := v42) (lv2 := [(4, .int v42), (0, .ref x0), (1, .int x1), (2, .int x2), (3, .int x3)]) 4 dX12_shorter_138 rfl (by rw [e43]; rfl) (by decide) rfl ?_
      refine wp_goto (tgt := 65) dX12_shorter_141 (by decide) ?_
      exact wp_sub [1, 2, 3, 4, 0] rfl hb
set_option maxRecDepth 100000 in
set_option maxHeartbeats 4000000 in
theorem s_X12_shorter_95 {l : Launch} {g : AG} {h : AH} {x0 : Nat} {x1 : Int32} {x2 : Int32} {x4 : Int32} {x5 : Int32}  {Q : Int32 → AH → Prop} (hb : (Is 194 x0 11) ∧ ( ((h.1 x0 40 ≤ x5 → (∀ h46 : AH, h46 = ax_setI h x0 40 ((h.1 x0 40) - 1) → ( ∀ v48 : Int32, v48 = x4 + (-1) → ( L_X12_shorter_65 l g h46 x0 x1 x2 1 v48  Q)))) ∧ (¬ (h.1 x0 40 ≤ x5) → ((Is 194 (h.2.2 x0 39) 20) ∧ ( (Is 194 (h.2.2 x0 39) 20) ∧ ( (vp_in x5 (ax_s (h.2.2 x0 39)).2) ∧ ( (vp_in (x5 - 1) (ax_s (h.2.2 x0 39)).2) ∧ ( ∀ h54 : AH, h54 = ax_setI h (h.2.2 x0 39) (x5 - 1).toNatClampNeg (h.1 (h.2.2 x0 39) x5.toNatClampNeg) → ( ∀ v56 : Int32, v56 = x5 + (1) → ( L_X12_shorter_95 l g h54 x0 x1 x2 x4 v56  Q))))))))))) : L_X12_shorter_95 l g h x0 x1 x2 x4 x5  Q := by
  refine wp_iload 4 dX12_shorter_95 rfl ?_
  obtain ⟨i44, hb⟩ := hb
  refine wp_aload_n 0 dX12_shorter_97 rfl rfl ?_
  refine wp_getI dX12_shorter_98 fl_X12_415 i44 ?_
  refine wp_icmp_ge (tgt := 126) dX12_shorter_101 (by decide) (fun c45 => ?_) (fun c45 => ?_)
  · have hb := hb.1 c45
    refine wp_aload_n 0 dX12_shorter_126 rfl rfl ?_
    refine wp_dup dX12_shorter_127 rfl ?_
    refine wp_getI dX12_shorter_128 fl_X12_415 i44 ?_
    refine wp_iconst (v := 1) dX12_shorter_131 (by decide) ?_
    refine wp_isub dX12_shorter_132 ?_
    refine wp_putI dX12_shorter_133 fl_X12_415 (Or.inl rfl) i44 ?_
    refine wp_topH (fun h46 e47 => ?_)
    have hb := hb h46 e47
    refine wp_iconst (v := 1) dX12_shorter_136 (by decide) ?_
    refine wp_istore_n (lv2 := [(3, .int 1), (0, .ref x0), (1, .int x1), (2, .int x2), (4, .int x4), (5, .int x5)]) dX12_shorter_137 rfl (by decide) rfl ?_
    obtain ⟨v48, e49⟩ : ∃ y : Int32, y = x4 + (-1) := ⟨_, rfl⟩
    have hb := hb v48 e49
    refine wp_iinc (v := v48) (lv2 := [(4, .int v48), (3, .int 1), (0, .ref x0), (1, .int x1), (2, .int x2), (5, .int x5)]) 4 dX12_shorter_138 rfl (by rw [e49]; rfl) (by decide) rfl ?_
    refine wp_goto (tgt := 65) dX12_shorter_141 (by decide) ?_
    exact wp_sub [2, 3, 4, 1, 0] rfl hb
  · have hb := hb.2 c45
    refine wp_aload_n 0 dX12_shorter_104 rfl rfl ?_
    obtain ⟨i50, hb⟩ := hb
    refine wp_getR dX12_shorter_105 fl_X12_101 i44 (i50.ne (by decide)) ?_
    refine wp_iload 4 dX12_shorter_108 rfl ?_
    refine wp_iconst (v := 1) dX12_shorter_110 (by decide) ?_
    refine wp_isub dX12_shorter_111 ?_
    refine wp_aload_n 0 dX12_shorter_112 rfl rfl ?_
    obtain ⟨i51, hb⟩ := hb
    refine wp_getR dX12_shorter_113 fl_X12_101 i44 (i51.ne (by decide)) ?_
    refine wp_iload 4 dX12_shorter_116 rfl ?_
    obtain ⟨b52, hb⟩ := hb
    refine wp_iaload dX12_shorter_118 i51 b52 ?_
    obtain ⟨b53, hb⟩ := hb
    refine wp_iastore dX12_shorter_119 i50 b53 ?_
    refine wp_topH (fun h54 e55 => ?_)
    have hb := hb h54 e55
    obtain ⟨v56, e57⟩ : ∃ y : Int32, y = x5 + (1) := ⟨_, rfl⟩
    have hb := hb v56 e57
    refine wp_iinc (v := v56) (lv2 := [(5, .int v56), (0, .ref x0), (1, .int x1), (2, .int x2), (4, .int x4)]) 4 dX12_shorter_120 rfl (by rw [e57]; rfl) (by decide) rfl ?_
    refine wp_goto (tgt := 95) dX12_shorter_123 (by decide) ?_
    exact wp_sub [1, 2, 3, 4, 0] rfl hb
theorem c_X12_shorter {l : Launch} {g : AG} {h : AH} {x0 : Nat} {x1 : Int32}  {Q : Int32 → AH → Prop} (hb : L_X12_shorter_0 l g h x0 x1  Q) : C_X12_shorter l g h x0 x1  Q := ax_met rfl rfl (Nat.le_of_ble_eq_true rfl) hb
def C_X12_row (l : Launch) (g : AG) (h : AH) (x0 : Nat) (x1 : Int32)  (Q : Int32 → AH → Prop) : Prop := Ct l g mX12_row 0 0 194 194 h [.ref x0, .int x1] (ax_QI Q)
def L_X12_row_0 (l : Launch) (g : AG) (h : AH) (x0 : Nat) (x1 : Int32)  (Q : Int32 → AH → Prop) : Prop := Wp l g mX12_row 0 0 194 194 194 0 [(0, .ref x0), (1, .int x1)] [] h (FM g 194 194 (ax_QI Q))
def L_X12_row_13 (l : Launch) (g : AG) (h : AH) (x0 : Nat) (x1 : Int32) (s0 : Nat) (Q : Int32 → AH → Prop) : Prop := Wp l g mX12_row 0 0 194 194 194 13 [(0, .ref x0), (1, .int x1)] [.ref s0] h (FM g 194 194 (ax_QI Q))
def L_X12_row_18 (l : Launch) (g : AG) (h : AH) (x0 : Nat) (x1 : Int32) (s0 : Int32) (s1 : Nat) (Q : Int32 → AH → Prop) : Prop := Wp l g mX12_row 0 0 194 194 194 18 [(0, .ref x0), (1, .int x1)] [.int s0, .ref s1] h (FM g 194 194 (ax_QI Q))
set_option maxRecDepth 100000 in
set_option maxHeartbeats 4000000 in
theorem s_X12_row_0 {l : Launch} {g : AG} {h : AH} {x0 : Nat} {x1 : Int32}  {Q : Int32 → AH → Prop} (hb : (Is 194 x0 11) ∧ ( ((x1 < 0 → (L_X12_row_13 l g h x0 x1 x0 Q)) ∧ (¬ (x1 < 0) → (((x1 < h.1 x0 40 → (L_X12_row_18 l g h x0 x1 0 x0 Q)) ∧ (¬ (x1 < h.1 x0 40) → (L_X12_row_13 l g h x0 x1 x0 Q)))))))) : L_X12_row_0 l g h x0 x1  Q := by
  obtain ⟨i1, hb⟩ := hb
  refine wp_aload_n 0 dX12_row_0 rfl rfl ?_
  refine wp_iload_n 1 dX12_row_1 rfl rfl ?_
  refine wp_if_lt (tgt := 13) dX12_row_2 (by decide) (fun c2 => ?_) (fun c2 => ?_)
  · have hb := hb.1 c2
    exact hb
  · have hb := hb.2 c2
    refine wp_iload_n 1 dX12_row_5 rfl rfl ?_
    refine wp_aload_n 0 dX12_row_6 rfl rfl ?_
    refine wp_getI dX12_row_7 fl_X12_415 i1 ?_
    refine wp_icmp_lt (tgt := 17) dX12_row_10 (by decide) (fun c3 => ?_) (fun c3 => ?_)
    · have hb := hb.1 c3
      refine wp_iconst (v := 0) dX12_row_17 (by decide) ?_
      exact hb
    · have hb := hb.2 c3
      exact hb
set_option maxRecDepth 100000 in
set_option maxHeartbeats 4000000 in
theorem s_X12_row_13 {l : Launch} {g : AG} {h : AH} {x0 : Nat} {x1 : Int32} {s0 : Nat} {Q : Int32 → AH → Prop} (hb : L_X12_row_18 l g h x0 x1 1 s0 Q) : L_X12_row_13 l g h x0 x1 s0 Q := by
  refine wp_iconst (v := 1) dX12_row_13 (by decide) ?_
  refine wp_goto (tgt := 18) dX12_row_14 (by decide) ?_
  exact hb
set_option maxRecDepth 100000 in
set_option maxHeartbeats 4000000 in
theorem s_X12_row_18 {l : Launch} {g : AG} {h : AH} {x0 : Nat} {x1 : Int32} {s0 : Int32} {s1 : Nat} {Q : Int32 → AH → Prop} (hb : (Is 194 s1 11) ∧ ( ∀ h5 : AH, h5 = ax_setI h s1 0 s0 → ( (Is 194 x0 11) ∧ ( ((h5.1 x0 0 ≤ 0 → ((Is 194 (h5.2.2 x0 39) 20) ∧ ( (vp_in x1 (ax_s (h5.2.2 x0 39)).2) ∧ ( Q (h5.1 (h5.2.2 x0 39) x1.toNatClampNeg) h5)))) ∧ (¬ (h5.1 x0 0 ≤ 0) → (Q 0 h5))))))) : L_X12_row_18 l g h x0 x1 s0 s1 Q := by
  obtain ⟨i4, hb⟩ := hb
  refine wp_putI dX12_row_18 fl_X12_1 (Or.inl rfl) i4 ?_
  refine wp_topH (fun h5 e6 => ?_)
  have hb := hb h5 e6
  obtain ⟨i7, hb⟩ := hb
  refine wp_aload_n 0 dX12_row_21 rfl rfl ?_
  refine wp_getI dX12_row_22 fl_X12_1 i7 ?_
  refine wp_if_le (tgt := 32) dX12_row_25 (by decide) (fun c8 => ?_) (fun c8 => ?_)
  · have hb := hb.1 c8
    refine wp_aload_n 0 dX12_row_32 rfl rfl ?_
    obtain ⟨i9, hb⟩ := hb
    refine wp_getR dX12_row_33 fl_X12_101 i7 (i9.ne (by decide)) ?_
    refine wp_iload_n 1 dX12_row_36 rfl rfl ?_
    obtain ⟨b10, hb⟩ := hb
    refine wp_iaload dX12_row_37 i9 b10 ?_
    exact wp_iret rfl dX12_row_38 ⟨_, rfl, hb⟩
  · have hb := hb.2 c8
    refine wp_iconst (v := 0) dX12_row_28 (by decide) ?_
    refine wp_goto (tgt := 38) dX12_row_29 (by decide) ?_
    exact wp_iret rfl dX12_row_38 ⟨_, rfl, hb⟩
theorem c_X12_row {l : Launch} {g : AG} {h : AH} {x0 : Nat} {x1 : Int32}  {Q : Int32 → AH → Prop} (hb : L_X12_row_0 l g h x0 x1  Q) : C_X12_row l g h x0 x1  Q := ax_met rfl rfl (Nat.le_of_ble_eq_true rfl) hb
def C_X12_sameAct (l : Launch) (g : AG) (h : AH) (x0 : Nat) (x1 : Nat) (x2 : Nat) (x3 : Int32)  (Q : Int32 → AH → Prop) : Prop := Ct l g mX12_sameAct 2 48 194 194 h [.ref x0, .ref x1, .ref x2, .int x3] (ax_QI Q)
def L_X12_sameAct_0 (l : Launch) (g : AG) (h : AH) (x0 : Nat) (x1 : Nat) (x2 : Nat) (x3 : Int32)  (Q : Int32 → AH → Prop) : Prop := Wp l g mX12_sameAct 2 48 194 194 194 0 [(0, .ref x0), (1, .ref x1), (2, .ref x2), (3, .int x3)] [] h (FM g 194 194 (ax_QI Q))
def L_X12_sameAct_32 (l : Launch) (g : AG) (h : AH) (x1 : Nat) (x2 : Nat) (x3 : Int32) (x4 : Int32) (x5 : Int32)  (Q : Int32 → AH → Prop) : Prop := Wp l g mX12_sameAct 2 48 194 194 194 32 [(1, .ref x1), (2, .ref x2), (3, .int x3), (4, .int x4), (5, .int x5)] [] h (FM g 194 194 (ax_QI Q))
def L_X12_sameAct_74 (l : Launch) (g : AG) (h : AH) (x2 : Nat) (x5 : Int32)  (Q : Int32 → AH → Prop) : Prop := Wp l g mX12_sameAct 2 48 194 194 194 74 [(2, .ref x2), (5, .int x5)] [] h (FM g 194 194 (ax_QI Q))
set_option maxRecDepth 100000 in
set_option maxHeartbeats 4000000 in
theorem s_X12_sameAct_0 {l : Launch} {g : AG} {h : AH} {x0 : Nat} {x1 : Nat} {x2 : Nat} {x3 : Int32}  {Q : Int32 → AH → Prop} (hb : (Is 194 x0 11) ∧ ( (Is 194 x2 9) ∧ ( C_X12_possible l g h x0 x2 (fun r5 h4 => ( ((x3 < 24 → (L_X12_sameAct_32 l g h4 x1 x2 x3 r5 0  Q)) ∧ (¬ (x3 < 24) → (((¬ (jishr r5 x3) &&& 1 = 1 → (Q (-1) h4)) ∧ ((jishr r5 x3) &&& 1 = 1 → (Q x3 h4))))))))))) : L_X12_sameAct_0 l g h x0 x1 x2 x3  Q := by
  obtain ⟨i1, hb⟩ := hb
  refine wp_aload_n 0 dX12_sameAct_0 rfl rfl ?_
  obtain ⟨i2, hb⟩ := hb
  refine wp_aload_n 2 dX12_sameAct_1 rfl rfl ?_
  refine wp_callV (as := [.ref x2]) dX12_sameAct_2 cb_X12_possible lk_X12_381 im_X12_possible se_X12_possible rfl (Nat.le_of_ble_eq_true rfl) ⟨by decide, by decide⟩ ⟨Nat.le_refl _, Nat.le_refl _, Nat.le_refl _⟩ i1 rfl (by decide) hb (fun r0 h4 hb => ?_)
  obtain ⟨r5, rfl, hb⟩ := hb
  refine wp_istore (lv2 := [(4, .int r5), (0, .ref x0), (1, .ref x1), (2, .ref x2), (3, .int x3)]) dX12_sameAct_5 (by decide) rfl ?_
  refine wp_iload_n 4 dX12_sameAct_7 rfl rfl ?_
  refine wp_bipush (v := 24) dX12_sameAct_8 (by decide) ?_
  refine wp_icmp_lt (tgt := 29) dX12_sameAct_10 (by decide) (fun c6 => ?_) (fun c6 => ?_)
  · have hb := hb.1 c6
    refine wp_iconst (v := 0) dX12_sameAct_29 (by decide) ?_
    refine wp_istore (lv2 := [(5, .int 0), (4, .int r5), (0, .ref x0), (1, .ref x1), (2, .ref x2), (3, .int x3)]) dX12_sameAct_30 (by decide) rfl ?_
    exact wp_sub [3, 4, 5, 1, 0] rfl hb
  · have hb := hb.2 c6
    refine wp_iload 0 dX12_sameAct_13 rfl ?_
    refine wp_iload_n 4 dX12_sameAct_15 rfl rfl ?_
    refine wp_ishr dX12_sameAct_16 ?_
    refine wp_iconst (v := 1) dX12_sameAct_17 (by decide) ?_
    refine wp_iand dX12_sameAct_18 ?_
    refine wp_iconst (v := 1) dX12_sameAct_19 (by decide) ?_
    refine wp_icmp_ne (tgt := 27) dX12_sameAct_20 (by decide) (fun c7 => ?_) (fun c7 => ?_)
    · have hb := hb.1 c7
      refine wp_iconst (v := (-1)) dX12_sameAct_27 (by decide) ?_
      exact wp_iret rfl dX12_sameAct_28 ⟨_, rfl, hb⟩
    · have hb := hb.2 c7
      refine wp_iload_n 4 dX12_sameAct_23 rfl rfl ?_
      refine wp_goto (tgt := 28) dX12_sameAct_24 (by decide) ?_
      exact wp_iret rfl dX12_sameAct_28 ⟨_, rfl, hb⟩
set_option maxRecDepth 100000 in
set_option maxHeartbeats 4000000 in
theorem s_X12_sameAct_32 {l : Launch} {g : AG} {h : AH} {x1 : Nat} {x2 : Nat} {x3 : Int32} {x4 : Int32} {x5 : Int32}  {Q : Int32 → AH → Prop} (hb : (Is 194 x2 9) ∧ ( ((h.1 x2 1 ≤ x5 → (L_X12_sameAct_74 l g h x2 x5  Q)) ∧ (¬ (h.1 x2 1 ≤ x5) → ((((jishr x4 x5) &&& 1 = 0 → (∀ v11 : Int32, v11 = x5 + (1) → ( L_X12_sameAct_32 l g h x1 x2 x3 x4 v11  Q))) ∧ (¬ ((jishr x4 x5) &&& 1 = 0) → ((Is 194 (h.2.2 x2 4) 21) ∧ ( (vp_in x5 (ax_s (h.2.2 x2 4)).2) ∧ ( (Is 194 x1 9) ∧ ( (Is 194 (h.2.2 x1 4) 21) ∧ ( (vp_in x3 (ax_s (h.2.2 x1 4)).2) ∧ ( ((lg_cmp (h.2.1 (h.2.2 x2 4) x5.toNatClampNeg) (h.2.1 (h.2.2 x1 4) x3.toNatClampNeg) = 0 → (L_X12_sameAct_74 l g h x2 x5  Q)) ∧ (¬ (lg_cmp (h.2.1 (h.2.2 x2 4) x5.toNatClampNeg) (h.2.1 (h.2.2 x1 4) x3.toNatClampNeg) = 0) → (∀ v19 : Int32, v19 = x5 + (1) → ( L_X12_sameAct_32 l g h x1 x2 x3 x4 v19  Q))))))))))))))))) : L_X12_sameAct_32 l g h x1 x2 x3 x4 x5  Q := by
  refine wp_iload 4 dX12_sameAct_32 rfl ?_
  obtain ⟨i8, hb⟩ := hb
  refine wp_aload_n 1 dX12_sameAct_34 rfl rfl ?_
  refine wp_getI dX12_sameAct_35 fl_X12_208 i8 ?_
  refine wp_icmp_ge (tgt := 74) dX12_sameAct_38 (by decide) (fun c9 => ?_) (fun c9 => ?_)
  · have hb := hb.1 c9
    exact wp_sub [1, 4] rfl hb
  · have hb := hb.2 c9
    refine wp_iload 3 dX12_sameAct_41 rfl ?_
    refine wp_iload 4 dX12_sameAct_43 rfl ?_
    refine wp_ishr dX12_sameAct_45 ?_
    refine wp_iconst (v := 1) dX12_sameAct_46 (by decide) ?_
    refine wp_iand dX12_sameAct_47 ?_
    refine wp_if_eq (tgt := 68) dX12_sameAct_48 (by decide) (fun c10 => ?_) (fun c10 => ?_)
    · have hb := hb.1 c10
      obtain ⟨v11, e12⟩ : ∃ y : Int32, y = x5 + (1) := ⟨_, rfl⟩
      have hb := hb v11 e12
      refine wp_iinc (v := v11) (lv2 := [(5, .int v11), (1, .ref x1), (2, .ref x2), (3, .int x3), (4, .int x4)]) 4 dX12_sameAct_68 rfl (by rw [e12]; rfl) (by decide) rfl ?_
      refine wp_goto (tgt := 32) dX12_sameAct_71 (by decide) ?_
      exact wp_sub [1, 2, 3, 4, 0] rfl hb
    · have hb := hb.2 c10
      refine wp_aload_n 1 dX12_sameAct_51 rfl rfl ?_
      obtain ⟨i13, hb⟩ := hb
      refine wp_getR dX12_sameAct_52 fl_X12_264 i8 (i13.ne (by decide)) ?_
      refine wp_iload 4 dX12_sameAct_55 rfl ?_
      obtain ⟨b14, hb⟩ := hb
      refine wp_laload dX12_sameAct_57 i13 b14 ?_
      obtain ⟨i15, hb⟩ := hb
      refine wp_aload_n 0 dX12_sameAct_58 rfl rfl ?_
      obtain ⟨i16, hb⟩ := hb
      refine wp_getR dX12_sameAct_59 fl_X12_264 i15 (i16.ne (by decide)) ?_
      refine wp_iload_n 2 dX12_sameAct_62 rfl rfl ?_
      obtain ⟨b17, hb⟩ := hb
      refine wp_laload dX12_sameAct_63 i16 b17 ?_
      refine wp_lcmp dX12_sameAct_64 ?_
      refine wp_if_eq (tgt := 74) dX12_sameAct_65 (by decide) (fun c18 => ?_) (fun c18 => ?_)
      · have hb := hb.1 c18
        exact wp_sub [1, 4] rfl hb
      · have hb := hb.2 c18
        obtain ⟨v19, e20⟩ : ∃ y : Int32, y = x5 + (1) := ⟨_, rfl⟩
        have hb := hb v19 e20
        refine wp_iinc (v := v19) (lv2 := [(5, .int v19), (1, .ref x1), (2, .ref x2), (3, .int x3), (4, .int x4)]) 4 dX12_sameAct_68 rfl (by rw [e20]; rfl) (by decide) rfl ?_
        refine wp_goto (tgt := 32) dX12_sameAct_71 (by decide) ?_
        exact wp_sub [1, 2, 3, 4, 0] rfl hb
set_option maxRecDepth 100000 in
set_option maxHeartbeats 4000000 in
theorem s_X12_sameAct_74 {l : Launch} {g : AG} {h : AH} {x2 : Nat} {x5 : Int32}  {Q : Int32 → AH → Prop} (hb : (Is 194 x2 9) ∧ ( ((h.1 x2 1 ≤ x5 → (Q (-1) h)) ∧ (¬ (h.1 x2 1 ≤ x5) → (Q x5 h))))) : L_X12_sameAct_74 l g h x2 x5  Q := by
  refine wp_iload 1 dX12_sameAct_74 rfl ?_
  obtain ⟨i21, hb⟩ := hb
  refine wp_aload_n 0 dX12_sameAct_76 rfl rfl ?_
  refine wp_getI dX12_sameAct_77 fl_X12_208 i21 ?_
  refine wp_icmp_ge (tgt := 88) dX12_sameAct_80 (by decide) (fun c22 => ?_) (fun c22 => ?_)
  · have hb := hb.1 c22
    refine wp_iconst (v := (-1)) dX12_sameAct_88 (by decide) ?_
    exact wp_iret rfl dX12_sameAct_89 ⟨_, rfl, hb⟩
  · have hb := hb.2 c22
    refine wp_iload 1 dX12_sameAct_83 rfl ?_
    refine wp_goto (tgt := 89) dX12_sameAct_85 (by decide) ?_
    exact wp_iret rfl dX12_sameAct_89 ⟨_, rfl, hb⟩
theorem c_X12_sameAct {l : Launch} {g : AG} {h : AH} {x0 : Nat} {x1 : Nat} {x2 : Nat} {x3 : Int32}  {Q : Int32 → AH → Prop} (hb : L_X12_sameAct_0 l g h x0 x1 x2 x3  Q) : C_X12_sameAct l g h x0 x1 x2 x3  Q := ax_met rfl rfl (Nat.le_of_ble_eq_true rfl) hb
def C_X12_sees (l : Launch) (g : AG) (h : AH) (x0 : Nat) (x1 : Nat)  (Q : AH → Prop) : Prop := Ct l g mX12_sees 1 27 194 194 h [.ref x0, .ref x1] (ax_QV Q)
def L_X12_sees_0 (l : Launch) (g : AG) (h : AH) (x0 : Nat) (x1 : Nat)  (Q : AH → Prop) : Prop := Wp l g mX12_sees 1 27 194 194 194 0 [(0, .ref x0), (1, .ref x1)] [] h (FM g 194 194 (ax_QV Q))
def L_X12_sees_53 (l : Launch) (g : AG) (h : AH) (x0 : Nat) (x1 : Nat) (x2 : Int32)  (Q : AH → Prop) : Prop := Wp l g mX12_sees 1 27 194 194 194 53 [(0, .ref x0), (1, .ref x1), (2, .int x2)] [] h (FM g 194 194 (ax_QV Q))
def L_X12_sees_116 (l : Launch) (g : AG) (h : AH) (x0 : Nat) (x1 : Nat) (x3 : Int32) (x4 : Int32)  (Q : AH → Prop) : Prop := Wp l g mX12_sees 1 27 194 194 194 116 [(0, .ref x0), (1, .ref x1), (3, .int x3), (4, .int x4)] [] h (FM g 194 194 (ax_QV Q))
set_option maxRecDepth 100000 in
set_option maxHeartbeats 4000000 in
theorem s_X12_sees_0 {l : Launch} {g : AG} {h : AH} {x0 : Nat} {x1 : Nat}  {Q : AH → Prop} (hb : (Is 194 x0 11) ∧ ( ∀ h2 : AH, h2 = ax_setI h x0 50 (h.1 x0 19) → ( ∀ h4 : AH, h4 = ax_setI h2 x0 51 0 → ( ∀ h6 : AH, h6 = ax_setI h4 x0 52 0 → ( ∀ h8 : AH, h8 = ax_setL h6 x0 53 0 → ( ((h8.1 x0 19 ≤ 0 → ((Is 194 (h8.2.2 x0 21) 20) ∧ ( (vp_in ((h8.1 x0 20) - 1) (ax_s (h8.2.2 x0 21)).2) ∧ ( ∀ v13 : Int32, v13 = (h8.1 (h8.2.2 x0 21) ((h8.1 x0 20) - 1).toNatClampNeg) → ( (Is 194 x1 9) ∧ ( (Is 194 (h8.2.2 x1 3) 21) ∧ ( (vp_in v13 (ax_s (h8.2.2 x1 3)).2) ∧ ( ∀ h18 : AH, h18 = ax_setL h8 x0 53 (h8.2.1 (h8.2.2 x1 3) v13.toNatClampNeg) → ( L_X12_sees_53 l g h18 x0 x1 v13  Q))))))))) ∧ (¬ (h8.1 x0 19 ≤ 0) → (Q h8))))))))) : L_X12_sees_0 l g h x0 x1  Q := by
  obtain ⟨i1, hb⟩ := hb
  refine wp_aload_n 0 dX12_sees_0 rfl rfl ?_
  refine wp_aload_n 0 dX12_sees_1 rfl rfl ?_
  refine wp_getI dX12_sees_2 fl_X12_343 i1 ?_
  refine wp_putI dX12_sees_5 fl_X12_425 (Or.inl rfl) i1 ?_
  refine wp_topH (fun h2 e3 => ?_)
  have hb := hb h2 e3
  refine wp_aload_n 0 dX12_sees_8 rfl rfl ?_
  refine wp_iconst (v := 0) dX12_sees_9 (by decide) ?_
  refine wp_putI dX12_sees_10 fl_X12_428 (Or.inl rfl) i1 ?_
  refine wp_topH (fun h4 e5 => ?_)
  have hb := hb h4 e5
  refine wp_aload_n 0 dX12_sees_13 rfl rfl ?_
  refine wp_iconst (v := 0) dX12_sees_14 (by decide) ?_
  refine wp_putI dX12_sees_15 fl_X12_431 (Or.inl rfl) i1 ?_
  refine wp_topH (fun h6 e7 => ?_)
  have hb := hb h6 e7
  refine wp_aload_n 0 dX12_sees_18 rfl rfl ?_
  refine wp_lconst (v := 0) dX12_sees_19 (by decide) ?_
  refine wp_putL dX12_sees_20 fl_X12_434 (Or.inl rfl) i1 ?_
  refine wp_topH (fun h8 e9 => ?_)
  have hb := hb h8 e9
  refine wp_aload_n 0 dX12_sees_23 rfl rfl ?_
  refine wp_getI dX12_sees_24 fl_X12_343 i1 ?_
  refine wp_if_le (tgt := 31) dX12_sees_27 (by decide) (fun c10 => ?_) (fun c10 => ?_)
  · have hb := hb.1 c10
    refine wp_aload_n 0 dX12_sees_31 rfl rfl ?_
    obtain ⟨i11, hb⟩ := hb
    refine wp_getR dX12_sees_32 fl_X12_52 i1 (i11.ne (by decide)) ?_
    refine wp_aload_n 0 dX12_sees_35 rfl rfl ?_
    refine wp_getI dX12_sees_36 fl_X12_346 i1 ?_
    refine wp_iconst (v := 1) dX12_sees_39 (by decide) ?_
    refine wp_isub dX12_sees_40 ?_
    obtain ⟨b12, hb⟩ := hb
    refine wp_iaload dX12_sees_41 i11 b12 ?_
    refine wp_topi (fun v13 e14 => ?_)
    have hb := hb v13 e14
    refine wp_istore_n (lv2 := [(2, .int v13), (0, .ref x0), (1, .ref x1)]) dX12_sees_42 rfl (by decide) rfl ?_
    refine wp_aload_n 1 dX12_sees_43 rfl rfl ?_
    obtain ⟨i15, hb⟩ := hb
    refine wp_aload_n 2 dX12_sees_44 rfl rfl ?_
    obtain ⟨i16, hb⟩ := hb
    refine wp_getR dX12_sees_45 fl_X12_228 i15 (i16.ne (by decide)) ?_
    refine wp_iload_n 0 dX12_sees_48 rfl rfl ?_
    obtain ⟨b17, hb⟩ := hb
    refine wp_laload dX12_sees_49 i16 b17 ?_
    refine wp_putL dX12_sees_50 fl_X12_434 (Or.inl rfl) i1 ?_
    refine wp_topH (fun h18 e19 => ?_)
    have hb := hb h18 e19
    exact wp_sub [1, 2, 0] rfl hb
  · have hb := hb.2 c10
    exact wp_vret rfl dX12_sees_30 ⟨rfl, hb⟩
set_option maxRecDepth 100000 in
set_option maxHeartbeats 4000000 in
theorem s_X12_sees_53 {l : Launch} {g : AG} {h : AH} {x0 : Nat} {x1 : Nat} {x2 : Int32}  {Q : AH → Prop} (hb : (Is 194 x0 11) ∧ ( (Is 194 x1 9) ∧ ( (Is 194 (h.2.2 x1 7) 20) ∧ ( (vp_in x2 (ax_s (h.2.2 x1 7)).2) ∧ ( ((h.1 (h.2.2 x1 7) x2.toNatClampNeg ≤ h.1 x0 51 → (C_X12_pressed l g h x0 x1 (fun r27 h26 => ( L_X12_sees_116 l g h26 x0 x1 r27 0  Q)))) ∧ (¬ (h.1 (h.2.2 x1 7) x2.toNatClampNeg ≤ h.1 x0 51) → ((Is 194 (h.2.2 x0 54) 20) ∧ ( (Is 194 (h.2.2 x0 23) 20) ∧ ( (Is 194 (h.2.2 x1 8) 20) ∧ ( (vp_in ((6 * x2) + (h.1 x0 51)) (ax_s (h.2.2 x1 8)).2) ∧ ( ∀ v32 : Int32, v32 = (h.1 (h.2.2 x1 8) ((6 * x2) + (h.1 x0 51)).toNatClampNeg) → ( (vp_in v32 (ax_s (h.2.2 x0 23)).2) ∧ ( (vp_in (h.1 x0 51) (ax_s (h.2.2 x0 54)).2) ∧ ( ∀ h36 : AH, h36 = ax_setI h (h.2.2 x0 54) (h.1 x0 51).toNatClampNeg (h.1 (h.2.2 x0 23) v32.toNatClampNeg) → ( ∀ h38 : AH, h38 = ax_setI h36 x0 51 ((h36.1 x0 51) + 1) → ( L_X12_sees_53 l g h38 x0 x1 x2  Q))))))))))))))))) : L_X12_sees_53 l g h x0 x1 x2  Q := by
  obtain ⟨i20, hb⟩ := hb
  refine wp_aload_n 0 dX12_sees_53 rfl rfl ?_
  refine wp_getI dX12_sees_54 fl_X12_428 i20 ?_
  obtain ⟨i21, hb⟩ := hb
  refine wp_aload_n 1 dX12_sees_57 rfl rfl ?_
  obtain ⟨i22, hb⟩ := hb
  refine wp_getR dX12_sees_58 fl_X12_252 i21 (i22.ne (by decide)) ?_
  refine wp_iload_n 2 dX12_sees_61 rfl rfl ?_
  obtain ⟨b23, hb⟩ := hb
  refine wp_iaload dX12_sees_62 i22 b23 ?_
  refine wp_icmp_ge (tgt := 107) dX12_sees_63 (by decide) (fun c24 => ?_) (fun c24 => ?_)
  · have hb := hb.1 c24
    refine wp_aload_n 0 dX12_sees_107 rfl rfl ?_
    refine wp_aload_n 1 dX12_sees_108 rfl rfl ?_
    refine wp_callV (as := [.ref x1]) dX12_sees_109 cb_X12_pressed lk_X12_354 im_X12_pressed se_X12_pressed rfl (Nat.le_of_ble_eq_true rfl) ⟨by decide, by decide⟩ ⟨Nat.le_refl _, Nat.le_refl _, Nat.le_refl _⟩ i20 rfl (by decide) hb (fun r0 h26 hb => ?_)
    obtain ⟨r27, rfl, hb⟩ := hb
    refine wp_istore_n (lv2 := [(3, .int r27), (0, .ref x0), (1, .ref x1), (2, .int x2)]) dX12_sees_112 rfl (by decide) rfl ?_
    refine wp_iconst (v := 0) dX12_sees_113 (by decide) ?_
    refine wp_istore (lv2 := [(4, .int 0), (3, .int r27), (0, .ref x0), (1, .ref x1), (2, .int x2)]) dX12_sees_114 (by decide) rfl ?_
    exact wp_sub [2, 3, 1, 0] rfl hb
  · have hb := hb.2 c24
    refine wp_aload_n 0 dX12_sees_66 rfl rfl ?_
    obtain ⟨i28, hb⟩ := hb
    refine wp_getR dX12_sees_67 fl_X12_125 i20 (i28.ne (by decide)) ?_
    refine wp_aload_n 0 dX12_sees_70 rfl rfl ?_
    refine wp_getI dX12_sees_71 fl_X12_428 i20 ?_
    refine wp_aload_n 0 dX12_sees_74 rfl rfl ?_
    obtain ⟨i29, hb⟩ := hb
    refine wp_getR dX12_sees_75 fl_X12_59 i20 (i29.ne (by decide)) ?_
    refine wp_aload_n 1 dX12_sees_78 rfl rfl ?_
    obtain ⟨i30, hb⟩ := hb
    refine wp_getR dX12_sees_79 fl_X12_257 i21 (i30.ne (by decide)) ?_
    refine wp_bipush (v := 6) dX12_sees_82 (by decide) ?_
    refine wp_iload_n 2 dX12_sees_84 rfl rfl ?_
    refine wp_imul dX12_sees_85 ?_
    refine wp_aload_n 0 dX12_sees_86 rfl rfl ?_
    refine wp_getI dX12_sees_87 fl_X12_428 i20 ?_
    refine wp_iadd dX12_sees_90 ?_
    obtain ⟨b31, hb⟩ := hb
    refine wp_iaload dX12_sees_91 i30 b31 ?_
    refine wp_topi (fun v32 e33 => ?_)
    have hb := hb v32 e33
    obtain ⟨b34, hb⟩ := hb
    refine wp_iaload dX12_sees_92 i29 b34 ?_
    obtain ⟨b35, hb⟩ := hb
    refine wp_iastore dX12_sees_93 i28 b35 ?_
    refine wp_topH (fun h36 e37 => ?_)
    have hb := hb h36 e37
    refine wp_aload_n 0 dX12_sees_94 rfl rfl ?_
    refine wp_dup dX12_sees_95 rfl ?_
    refine wp_getI dX12_sees_96 fl_X12_428 i20 ?_
    refine wp_iconst (v := 1) dX12_sees_99 (by decide) ?_
    refine wp_iadd dX12_sees_100 ?_
    refine wp_putI dX12_sees_101 fl_X12_428 (Or.inl rfl) i20 ?_
    refine wp_topH (fun h38 e39 => ?_)
    have hb := hb h38 e39
    refine wp_goto (tgt := 53) dX12_sees_104 (by decide) ?_
    exact hb
set_option maxRecDepth 100000 in
set_option maxHeartbeats 4000000 in
theorem s_X12_sees_116 {l : Launch} {g : AG} {h : AH} {x0 : Nat} {x1 : Nat} {x3 : Int32} {x4 : Int32}  {Q : AH → Prop} (hb : (Is 194 x1 9) ∧ ( ((h.1 x1 1 ≤ x4 → (Q h)) ∧ (¬ (h.1 x1 1 ≤ x4) → (((¬ (jishr x3 x4) &&& 1 = 0 → ((Is 194 x0 11) ∧ ( (Is 194 (h.2.2 x0 55) 21) ∧ ( (Is 194 (h.2.2 x1 4) 21) ∧ ( (vp_in x4 (ax_s (h.2.2 x1 4)).2) ∧ ( (vp_in (h.1 x0 52) (ax_s (h.2.2 x0 55)).2) ∧ ( ∀ h48 : AH, h48 = ax_setL h (h.2.2 x0 55) (h.1 x0 52).toNatClampNeg (h.2.1 (h.2.2 x1 4) x4.toNatClampNeg) → ( ∀ h50 : AH, h50 = ax_setI h48 x0 52 ((h48.1 x0 52) + 1) → ( ∀ v52 : Int32, v52 = x4 + (1) → ( L_X12_sees_116 l g h50 x0 x1 x3 v52  Q)))))))))) ∧ ((jishr x3 x4) &&& 1 = 0 → (∀ v54 : Int32, v54 = x4 + (1) → ( L_X12_sees_116 l g h x0 x1 x3 v54  Q))))))))) : L_X12_sees_116 l g h x0 x1 x3 x4  Q := by
  refine wp_iload 3 dX12_sees_116 rfl ?_
  obtain ⟨i40, hb⟩ := hb
  refine wp_aload_n 1 dX12_sees_118 rfl rfl ?_
  refine wp_getI dX12_sees_119 fl_X12_208 i40 ?_
  refine wp_icmp_ge (tgt := 169) dX12_sees_122 (by decide) (fun c41 => ?_) (fun c41 => ?_)
  · have hb := hb.1 c41
    exact wp_vret rfl dX12_sees_169 ⟨rfl, hb⟩
  · have hb := hb.2 c41
    refine wp_iload_n 2 dX12_sees_125 rfl rfl ?_
    refine wp_iload 3 dX12_sees_126 rfl ?_
    refine wp_ishr dX12_sees_128 ?_
    refine wp_iconst (v := 1) dX12_sees_129 (by decide) ?_
    refine wp_iand dX12_sees_130 ?_
    refine wp_if_ne (tgt := 137) dX12_sees_131 (by decide) (fun c42 => ?_) (fun c42 => ?_)
    · have hb := hb.1 c42
      obtain ⟨i43, hb⟩ := hb
      refine wp_aload_n 0 dX12_sees_137 rfl rfl ?_
      obtain ⟨i44, hb⟩ := hb
      refine wp_getR dX12_sees_138 fl_X12_128 i43 (i44.ne (by decide)) ?_
      refine wp_aload_n 0 dX12_sees_141 rfl rfl ?_
      refine wp_getI dX12_sees_142 fl_X12_431 i43 ?_
      refine wp_aload_n 1 dX12_sees_145 rfl rfl ?_
      obtain ⟨i45, hb⟩ := hb
      refine wp_getR dX12_sees_146 fl_X12_264 i40 (i45.ne (by decide)) ?_
      refine wp_iload 3 dX12_sees_149 rfl ?_
      obtain ⟨b46, hb⟩ := hb
      refine wp_laload dX12_sees_151 i45 b46 ?_
      obtain ⟨b47, hb⟩ := hb
      refine wp_lastore dX12_sees_152 i44 b47 ?_
      refine wp_topH (fun h48 e49 => ?_)
      have hb := hb h48 e49
      refine wp_aload_n 0 dX12_sees_153 rfl rfl ?_
      refine wp_dup dX12_sees_154 rfl ?_
      refine wp_getI dX12_sees_155 fl_X12_431 i43 ?_
      refine wp_iconst (v := 1) dX12_sees_158 (by decide) ?_
      refine wp_iadd dX12_sees_159 ?_
      refine wp_putI dX12_sees_160 fl_X12_431 (Or.inl rfl) i43 ?_
      refine wp_topH (fun h50 e51 => ?_)
      have hb := hb h50 e51
      obtain ⟨v52, e53⟩ : ∃ y : Int32, y = x4 + (1) := ⟨_, rfl⟩
      have hb := hb v52 e53
      refine wp_iinc (v := v52) (lv2 := [(4, .int v52), (0, .ref x0), (1, .ref x1), (3, .int x3)]) 3 dX12_sees_163 rfl (by rw [e53]; rfl) (by decide) rfl ?_
      refine wp_goto (tgt := 116) dX12_sees_166 (by decide) ?_
      exact wp_sub [1, 2, 3, 0] rfl hb
    · have hb := hb.2 c42
      refine wp_goto (tgt := 163) dX12_sees_134 (by decide) ?_
      obtain ⟨v54, e55⟩ : ∃ y : Int32, y = x4 + (1) := ⟨_, rfl⟩
      have hb := hb v54 e55
      refine wp_iinc (v := v54) (lv2 := [(4, .int v54), (0, .ref x0), (1, .ref x1), (3, .int x3)]) 3 dX12_sees_163 rfl (by rw [e55]; rfl) (by decide) rfl ?_
      refine wp_goto (tgt := 116) dX12_sees_166 (by decide) ?_
      exact wp_sub [1, 2, 3, 0] rfl hb
theorem c_X12_sees {l : Launch} {g : AG} {h : AH} {x0 : Nat} {x1 : Nat}  {Q : AH → Prop} (hb : L_X12_sees_0 l g h x0 x1  Q) : C_X12_sees l g h x0 x1  Q := ax_met rfl rfl (Nat.le_of_ble_eq_true rfl) hb
