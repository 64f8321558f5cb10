def C_X12_ways (l : Launch) (g : AG) (h : AH) (x0 : Nat)  (Q : Int32 → AH → Prop) : Prop := Ct l g mX12_ways 1 22 194 194 h [.ref x0] (ax_QI Q)
def L_X12_ways_0 (l : Launch) (g : AG) (h : AH) (x0 : Nat)  (Q : Int32 → AH → Prop) : Prop := Wp l g mX12_ways 1 22 194 194 194 0 [(0, .ref x0)] [] h (FM g 194 194 (ax_QI Q))
def L_X12_ways_24 (l : Launch) (g : AG) (h : AH) (x0 : Nat) (x1 : Int32) (x2 : Int32)  (Q : Int32 → AH → Prop) : Prop := Wp l g mX12_ways 1 22 194 194 194 24 [(0, .ref x0), (1, .int x1), (2, .int x2)] [] h (FM g 194 194 (ax_QI Q))
set_option maxRecDepth 100000 in
set_option maxHeartbeats 4000000 in
theorem s_X12_ways_0 {l : Launch} {g : AG} {h : AH} {x0 : Nat}  {Q : Int32 → AH → Prop} (hb : (Is 194 x0 11) ∧ ( ∀ h2 : AH, h2 = ax_setI h x0 0 0 → ( ((¬ h2.1 x0 24 = (-1) → (L_X12_ways_24 l g h2 x0 0 0  Q)) ∧ (h2.1 x0 24 = (-1) → (C_X12_refused l g h2 x0 6 (fun r7 h6 => ( Q r7 h6)))))))) : L_X12_ways_0 l g h x0  Q := by
  obtain ⟨i1, hb⟩ := hb
  refine wp_aload_n 0 dX12_ways_0 rfl rfl ?_
  refine wp_iconst (v := 0) dX12_ways_1 (by decide) ?_
  refine wp_putI dX12_ways_2 fl_X12_1 (Or.inl rfl) i1 ?_
  refine wp_topH (fun h2 e3 => ?_)
  have hb := hb h2 e3
  refine wp_aload_n 0 dX12_ways_5 rfl rfl ?_
  refine wp_getI dX12_ways_6 fl_X12_62 i1 ?_
  refine wp_iconst (v := (-1)) dX12_ways_9 (by decide) ?_
  refine wp_icmp_ne (tgt := 20) dX12_ways_10 (by decide) (fun c4 => ?_) (fun c4 => ?_)
  · have hb := hb.1 c4
    refine wp_iconst (v := 0) dX12_ways_20 (by decide) ?_
    refine wp_istore_n (lv2 := [(1, .int 0), (0, .ref x0)]) dX12_ways_21 rfl (by decide) rfl ?_
    refine wp_iconst (v := 0) dX12_ways_22 (by decide) ?_
    refine wp_istore_n (lv2 := [(2, .int 0), (1, .int 0), (0, .ref x0)]) dX12_ways_23 rfl (by decide) rfl ?_
    exact wp_sub [2, 1, 0] rfl hb
  · have hb := hb.2 c4
    refine wp_aload_n 0 dX12_ways_13 rfl rfl ?_
    refine wp_bipush (v := 6) dX12_ways_14 (by decide) ?_
    refine wp_callV (as := [.int 6]) dX12_ways_16 cb_X12_refused lk_X12_316 im_X12_refused se_X12_refused rfl (Nat.le_of_ble_eq_true rfl) ⟨by decide, by decide⟩ ⟨Nat.le_refl _, Nat.le_refl _, Nat.le_refl _⟩ i1 rfl (by decide) hb (fun r0 h6 hb => ?_)
    obtain ⟨r7, rfl, hb⟩ := hb
    exact wp_iret rfl dX12_ways_19 ⟨_, rfl, hb⟩
set_option maxRecDepth 100000 in
set_option maxHeartbeats 4000000 in
theorem s_X12_ways_24 {l : Launch} {g : AG} {h : AH} {x0 : Nat} {x1 : Int32} {x2 : Int32}  {Q : Int32 → AH → Prop} (hb : (Is 194 x0 11) ∧ ( ((h.1 x0 25 ≤ x2 → (C_X12_done l g h x0 x1 (fun r12 h11 => ( Q r12 h11)))) ∧ (¬ (h.1 x0 25 ≤ x2) → ((Is 194 (h.2.2 x0 31) 20) ∧ ( (vp_in x2 (ax_s (h.2.2 x0 31)).2) ∧ ( C_X12_bits l g h (h.1 (h.2.2 x0 31) x2.toNatClampNeg) (fun r17 h16 => ( ∀ v18 : Int32, v18 = (x1 + r17) → ( ∀ v20 : Int32, v20 = x2 + (1) → ( L_X12_ways_24 l g h16 x0 v18 v20  Q))))))))))) : L_X12_ways_24 l g h x0 x1 x2  Q := by
  refine wp_iload_n 2 dX12_ways_24 rfl rfl ?_
  obtain ⟨i8, hb⟩ := hb
  refine wp_aload_n 0 dX12_ways_25 rfl rfl ?_
  refine wp_getI dX12_ways_26 fl_X12_334 i8 ?_
  refine wp_icmp_ge (tgt := 50) dX12_ways_29 (by decide) (fun c9 => ?_) (fun c9 => ?_)
  · have hb := hb.1 c9
    refine wp_aload_n 0 dX12_ways_50 rfl rfl ?_
    refine wp_iload_n 1 dX12_ways_51 rfl rfl ?_
    refine wp_callV (as := [.int x1]) dX12_ways_52 cb_X12_done lk_X12_337 im_X12_done se_X12_done rfl (Nat.le_of_ble_eq_true rfl) ⟨by decide, by decide⟩ ⟨Nat.le_refl _, Nat.le_refl _, Nat.le_refl _⟩ i8 rfl (by decide) hb (fun r0 h11 hb => ?_)
    obtain ⟨r12, rfl, hb⟩ := hb
    exact wp_iret rfl dX12_ways_55 ⟨_, rfl, hb⟩
  · have hb := hb.2 c9
    refine wp_iload_n 1 dX12_ways_32 rfl rfl ?_
    refine wp_aload_n 0 dX12_ways_33 rfl rfl ?_
    obtain ⟨i13, hb⟩ := hb
    refine wp_getR dX12_ways_34 fl_X12_80 i8 (i13.ne (by decide)) ?_
    refine wp_iload_n 2 dX12_ways_37 rfl rfl ?_
    obtain ⟨b14, hb⟩ := hb
    refine wp_iaload dX12_ways_38 i13 b14 ?_
    refine wp_callS (as := [.int (h.1 (h.2.2 x0 31) x2.toNatClampNeg)]) dX12_ways_39 cb_X12_bits lk_X12_387 st_X12_bits rfl (Nat.le_of_ble_eq_true rfl) ⟨by decide, by decide⟩ ⟨Nat.le_refl _, Nat.le_refl _, Nat.le_refl _⟩ hb (fun r0 h16 hb => ?_)
    obtain ⟨r17, rfl, hb⟩ := hb
    refine wp_iadd dX12_ways_42 ?_
    refine wp_topi (fun v18 e19 => ?_)
    have hb := hb v18 e19
    refine wp_istore_n (lv2 := [(1, .int v18), (0, .ref x0), (2, .int x2)]) dX12_ways_43 rfl (by decide) rfl ?_
    obtain ⟨v20, e21⟩ : ∃ y : Int32, y = x2 + (1) := ⟨_, rfl⟩
    have hb := hb v20 e21
    refine wp_iinc (v := v20) (lv2 := [(2, .int v20), (1, .int v18), (0, .ref x0)]) 2 dX12_ways_44 rfl (by rw [e21]; rfl) (by decide) rfl ?_
    refine wp_goto (tgt := 24) dX12_ways_47 (by decide) ?_
    exact wp_sub [2, 1, 0] rfl hb
theorem c_X12_ways {l : Launch} {g : AG} {h : AH} {x0 : Nat}  {Q : Int32 → AH → Prop} (hb : L_X12_ways_0 l g h x0  Q) : C_X12_ways l g h x0  Q := ax_met rfl (Nat.le_of_ble_eq_true rfl) hb
def C_X12_push (l : Launch) (g : AG) (h : AH) (x0 : Nat) (x1 : Int32)  (Q : Int32 → AH → Prop) : Prop := Ct l g mX12_push 1 21 194 194 h [.ref x0, .int x1] (ax_QI Q)
def L_X12_push_0 (l : Launch) (g : AG) (h : AH) (x0 : Nat) (x1 : Int32)  (Q : Int32 → AH → Prop) : Prop := Wp l g mX12_push 1 21 194 194 194 0 [(0, .ref x0), (1, .int x1)] [] h (FM g 194 194 (ax_QI Q))
set_option maxRecDepth 100000 in
set_option maxHeartbeats 4000000 in
theorem s_X12_push_0 {l : Launch} {g : AG} {h : AH} {x0 : Nat} {x1 : Int32}  {Q : Int32 → AH → Prop} (hb : (Is 194 x0 11) ∧ ( ∀ h2 : AH, h2 = ax_setI h x0 0 0 → ( C_X12_isAct l g h2 x1 (fun r6 h5 => ( ((¬ r6 = 0 → (((¬ h5.1 x0 40 = 400 → ((Is 194 (h5.2.2 x0 39) 20) ∧ ( (vp_in (h5.1 x0 40) (ax_s (h5.2.2 x0 39)).2) ∧ ( ∀ h11 : AH, h11 = ax_setI h5 (h5.2.2 x0 39) (h5.1 x0 40).toNatClampNeg x1 → ( ∀ h13 : AH, h13 = ax_setI h11 x0 40 ((h11.1 x0 40) + 1) → ( C_X12_done l g h13 x0 (h13.1 x0 40) (fun r17 h16 => ( Q r17 h16)))))))) ∧ (h5.1 x0 40 = 400 → (C_X12_refused l g h5 x0 4 (fun r20 h19 => ( Q r20 h19))))))) ∧ (r6 = 0 → (C_X12_refused l g h5 x0 2 (fun r23 h22 => ( Q r23 h22)))))))))) : L_X12_push_0 l g h x0 x1  Q := by
  obtain ⟨i1, hb⟩ := hb
  refine wp_aload_n 0 dX12_push_0 rfl rfl ?_
  refine wp_iconst (v := 0) dX12_push_1 (by decide) ?_
  refine wp_putI dX12_push_2 fl_X12_1 (Or.inl rfl) i1 ?_
  refine wp_topH (fun h2 e3 => ?_)
  have hb := hb h2 e3
  refine wp_iload_n 1 dX12_push_5 rfl rfl ?_
  refine wp_callS (as := [.int x1]) dX12_push_6 cb_X12_isAct lk_X12_374 st_X12_isAct rfl (Nat.le_of_ble_eq_true rfl) ⟨by decide, by decide⟩ ⟨Nat.le_refl _, Nat.le_refl _, Nat.le_refl _⟩ hb (fun r0 h5 hb => ?_)
  obtain ⟨r6, rfl, hb⟩ := hb
  refine wp_if_ne (tgt := 18) dX12_push_9 (by decide) (fun c7 => ?_) (fun c7 => ?_)
  · have hb := hb.1 c7
    refine wp_aload_n 0 dX12_push_18 rfl rfl ?_
    refine wp_getI dX12_push_19 fl_X12_415 i1 ?_
    refine wp_sipush (v := 400) dX12_push_22 (by decide) ?_
    refine wp_icmp_ne (tgt := 34) dX12_push_25 (by decide) (fun c8 => ?_) (fun c8 => ?_)
    · have hb := hb.1 c8
      refine wp_aload_n 0 dX12_push_34 rfl rfl ?_
      obtain ⟨i9, hb⟩ := hb
      refine wp_getR dX12_push_35 fl_X12_101 i1 (i9.ne (by decide)) ?_
      refine wp_aload_n 0 dX12_push_38 rfl rfl ?_
      refine wp_getI dX12_push_39 fl_X12_415 i1 ?_
      refine wp_iload_n 1 dX12_push_42 rfl rfl ?_
      obtain ⟨b10, hb⟩ := hb
      refine wp_iastore dX12_push_43 i9 b10 ?_
      refine wp_topH (fun h11 e12 => ?_)
      have hb := hb h11 e12
      refine wp_aload_n 0 dX12_push_44 rfl rfl ?_
      refine wp_dup dX12_push_45 rfl ?_
      refine wp_getI dX12_push_46 fl_X12_415 i1 ?_
      refine wp_iconst (v := 1) dX12_push_49 (by decide) ?_
      refine wp_iadd dX12_push_50 ?_
      refine wp_putI dX12_push_51 fl_X12_415 (Or.inl rfl) i1 ?_
      refine wp_topH (fun h13 e14 => ?_)
      have hb := hb h13 e14
      refine wp_aload_n 0 dX12_push_54 rfl rfl ?_
      refine wp_aload_n 0 dX12_push_55 rfl rfl ?_
      refine wp_getI dX12_push_56 fl_X12_415 i1 ?_
      refine wp_callV (as := [.int (h13.1 x0 40)]) dX12_push_59 cb_X12_done lk_X12_337 im_X12_done se_X12_done rfl (Nat.le_of_ble_eq_true rfl) ⟨by decide, by decide⟩ ⟨Nat.le_refl _, Nat.le_refl _, Nat.le_refl _⟩ i1 rfl (by decide) hb (fun r0 h16 hb => ?_)
      obtain ⟨r17, rfl, hb⟩ := hb
      exact wp_iret rfl dX12_push_62 ⟨_, rfl, hb⟩
    · have hb := hb.2 c8
      refine wp_aload_n 0 dX12_push_28 rfl rfl ?_
      refine wp_iconst (v := 4) dX12_push_29 (by decide) ?_
      refine wp_callV (as := [.int 4]) dX12_push_30 cb_X12_refused lk_X12_316 im_X12_refused se_X12_refused rfl (Nat.le_of_ble_eq_true rfl) ⟨by decide, by decide⟩ ⟨Nat.le_refl _, Nat.le_refl _, Nat.le_refl _⟩ i1 rfl (by decide) hb (fun r0 h19 hb => ?_)
      obtain ⟨r20, rfl, hb⟩ := hb
      exact wp_iret rfl dX12_push_33 ⟨_, rfl, hb⟩
  · have hb := hb.2 c7
    refine wp_aload_n 0 dX12_push_12 rfl rfl ?_
    refine wp_iconst (v := 2) dX12_push_13 (by decide) ?_
    refine wp_callV (as := [.int 2]) dX12_push_14 cb_X12_refused lk_X12_316 im_X12_refused se_X12_refused rfl (Nat.le_of_ble_eq_true rfl) ⟨by decide, by decide⟩ ⟨Nat.le_refl _, Nat.le_refl _, Nat.le_refl _⟩ i1 rfl (by decide) hb (fun r0 h22 hb => ?_)
    obtain ⟨r23, rfl, hb⟩ := hb
    exact wp_iret rfl dX12_push_17 ⟨_, rfl, hb⟩
theorem c_X12_push {l : Launch} {g : AG} {h : AH} {x0 : Nat} {x1 : Int32}  {Q : Int32 → AH → Prop} (hb : L_X12_push_0 l g h x0 x1  Q) : C_X12_push l g h x0 x1  Q := ax_met rfl (Nat.le_of_ble_eq_true rfl) hb
def C_X12_cut (l : Launch) (g : AG) (h : AH) (x0 : Nat) (x1 : Int32)  (Q : Int32 → AH → Prop) : Prop := Ct l g mX12_cut 0 0 194 194 h [.ref x0, .int x1] (ax_QI Q)
def L_X12_cut_0 (l : Launch) (g : AG) (h : AH) (x0 : Nat) (x1 : Int32)  (Q : Int32 → AH → Prop) : Prop := Wp l g mX12_cut 0 0 194 194 194 0 [(0, .ref x0), (1, .int x1)] [] h (FM g 194 194 (ax_QI Q))
def L_X12_cut_18 (l : Launch) (g : AG) (h : AH) (x0 : Nat) (x1 : Int32) (s0 : Nat) (Q : Int32 → AH → Prop) : Prop := Wp l g mX12_cut 0 0 194 194 194 18 [(0, .ref x0), (1, .int x1)] [.ref s0] h (FM g 194 194 (ax_QI Q))
def L_X12_cut_23 (l : Launch) (g : AG) (h : AH) (x0 : Nat) (x1 : Int32) (s0 : Int32) (s1 : Nat) (Q : Int32 → AH → Prop) : Prop := Wp l g mX12_cut 0 0 194 194 194 23 [(0, .ref x0), (1, .int x1)] [.int s0, .ref s1] h (FM g 194 194 (ax_QI Q))
def L_X12_cut_43 (l : Launch) (g : AG) (h : AH) (x0 : Nat)  (Q : Int32 → AH → Prop) : Prop := Wp l g mX12_cut 0 0 194 194 194 43 [(0, .ref x0)] [] h (FM g 194 194 (ax_QI Q))
set_option maxRecDepth 100000 in
set_option maxHeartbeats 4000000 in
theorem s_X12_cut_0 {l : Launch} {g : AG} {h : AH} {x0 : Nat} {x1 : Int32}  {Q : Int32 → AH → Prop} (hb : (Is 194 x0 11) ∧ ( ∀ h2 : AH, h2 = ax_setI h x0 0 0 → ( ((x1 < 0 → (L_X12_cut_18 l g h2 x0 x1 x0 Q)) ∧ (¬ (x1 < 0) → (((x1 ≤ h2.1 x0 40 → (L_X12_cut_23 l g h2 x0 x1 0 x0 Q)) ∧ (¬ (x1 ≤ h2.1 x0 40) → (L_X12_cut_18 l g h2 x0 x1 x0 Q))))))))) : L_X12_cut_0 l g h x0 x1  Q := by
  obtain ⟨i1, hb⟩ := hb
  refine wp_aload_n 0 dX12_cut_0 rfl rfl ?_
  refine wp_iconst (v := 0) dX12_cut_1 (by decide) ?_
  refine wp_putI dX12_cut_2 fl_X12_1 (Or.inl rfl) i1 ?_
  refine wp_topH (fun h2 e3 => ?_)
  have hb := hb h2 e3
  refine wp_aload_n 0 dX12_cut_5 rfl rfl ?_
  refine wp_iload_n 1 dX12_cut_6 rfl rfl ?_
  refine wp_if_lt (tgt := 18) dX12_cut_7 (by decide) (fun c4 => ?_) (fun c4 => ?_)
  · have hb := hb.1 c4
    exact hb
  · have hb := hb.2 c4
    refine wp_iload_n 1 dX12_cut_10 rfl rfl ?_
    refine wp_aload_n 0 dX12_cut_11 rfl rfl ?_
    refine wp_getI dX12_cut_12 fl_X12_415 i1 ?_
    refine wp_icmp_le (tgt := 22) dX12_cut_15 (by decide) (fun c5 => ?_) (fun c5 => ?_)
    · have hb := hb.1 c5
      refine wp_iconst (v := 0) dX12_cut_22 (by decide) ?_
      exact hb
    · have hb := hb.2 c5
      exact hb
set_option maxRecDepth 100000 in
set_option maxHeartbeats 4000000 in
theorem s_X12_cut_18 {l : Launch} {g : AG} {h : AH} {x0 : Nat} {x1 : Int32} {s0 : Nat} {Q : Int32 → AH → Prop} (hb : L_X12_cut_23 l g h x0 x1 2 s0 Q) : L_X12_cut_18 l g h x0 x1 s0 Q := by
  refine wp_iconst (v := 2) dX12_cut_18 (by decide) ?_
  refine wp_goto (tgt := 23) dX12_cut_19 (by decide) ?_
  exact hb
set_option maxRecDepth 100000 in
set_option maxHeartbeats 4000000 in
theorem s_X12_cut_23 {l : Launch} {g : AG} {h : AH} {x0 : Nat} {x1 : Int32} {s0 : Int32} {s1 : Nat} {Q : Int32 → AH → Prop} (hb : (Is 194 s1 11) ∧ ( ∀ h7 : AH, h7 = ax_setI h s1 1 s0 → ( (Is 194 x0 11) ∧ ( ∀ h10 : AH, h10 = ax_setI h7 x0 2 (-1) → ( ((¬ h10.1 x0 1 = 0 → (L_X12_cut_43 l g h10 x0  Q)) ∧ (h10.1 x0 1 = 0 → (∀ h13 : AH, h13 = ax_setI h10 x0 40 x1 → ( L_X12_cut_43 l g h13 x0  Q))))))))) : L_X12_cut_23 l g h x0 x1 s0 s1 Q := by
  obtain ⟨i6, hb⟩ := hb
  refine wp_putI dX12_cut_23 fl_X12_7 (Or.inl rfl) i6 ?_
  refine wp_topH (fun h7 e8 => ?_)
  have hb := hb h7 e8
  obtain ⟨i9, hb⟩ := hb
  refine wp_aload_n 0 dX12_cut_26 rfl rfl ?_
  refine wp_iconst (v := (-1)) dX12_cut_27 (by decide) ?_
  refine wp_putI dX12_cut_28 fl_X12_10 (Or.inl rfl) i9 ?_
  refine wp_topH (fun h10 e11 => ?_)
  have hb := hb h10 e11
  refine wp_aload_n 0 dX12_cut_31 rfl rfl ?_
  refine wp_getI dX12_cut_32 fl_X12_7 i9 ?_
  refine wp_if_ne (tgt := 43) dX12_cut_35 (by decide) (fun c12 => ?_) (fun c12 => ?_)
  · have hb := hb.1 c12
    exact wp_sub [0] rfl hb
  · have hb := hb.2 c12
    refine wp_aload_n 0 dX12_cut_38 rfl rfl ?_
    refine wp_iload_n 1 dX12_cut_39 rfl rfl ?_
    refine wp_putI dX12_cut_40 fl_X12_415 (Or.inl rfl) i9 ?_
    refine wp_topH (fun h13 e14 => ?_)
    have hb := hb h13 e14
    exact wp_sub [0] rfl hb
set_option maxRecDepth 100000 in
set_option maxHeartbeats 4000000 in
theorem s_X12_cut_43 {l : Launch} {g : AG} {h : AH} {x0 : Nat}  {Q : Int32 → AH → Prop} (hb : (Is 194 x0 11) ∧ ( ((¬ h.1 x0 1 = 0 → (Q 0 h)) ∧ (h.1 x0 1 = 0 → (Q 1 h))))) : L_X12_cut_43 l g h x0  Q := by
  obtain ⟨i15, hb⟩ := hb
  refine wp_aload_n 0 dX12_cut_43 rfl rfl ?_
  refine wp_getI dX12_cut_44 fl_X12_7 i15 ?_
  refine wp_if_ne (tgt := 54) dX12_cut_47 (by decide) (fun c16 => ?_) (fun c16 => ?_)
  · have hb := hb.1 c16
    refine wp_iconst (v := 0) dX12_cut_54 (by decide) ?_
    exact wp_zret rfl dX12_cut_55 (Or.inl rfl) ⟨_, rfl, hb⟩
  · have hb := hb.2 c16
    refine wp_iconst (v := 1) dX12_cut_50 (by decide) ?_
    refine wp_goto (tgt := 55) dX12_cut_51 (by decide) ?_
    exact wp_zret rfl dX12_cut_55 (Or.inr rfl) ⟨_, rfl, hb⟩
theorem c_X12_cut {l : Launch} {g : AG} {h : AH} {x0 : Nat} {x1 : Int32}  {Q : Int32 → AH → Prop} (hb : L_X12_cut_0 l g h x0 x1  Q) : C_X12_cut l g h x0 x1  Q := ax_met rfl (Nat.le_of_ble_eq_true rfl) hb
