def C_X12_tried (l : Launch) (g : AG) (h : AH) (x0 : Nat)  (Q : Int32 → AH → Prop) : Prop := Ct l g mX12_tried 0 0 194 194 h [.ref x0] (ax_QI Q)
def L_X12_tried_0 (l : Launch) (g : AG) (h : AH) (x0 : Nat)  (Q : Int32 → AH → Prop) : Prop := Wp l g mX12_tried 0 0 194 194 194 0 [(0, .ref x0)] [] h (FM g 194 194 (ax_QI Q))
set_option maxRecDepth 100000 in
set_option maxHeartbeats 4000000 in
theorem s_X12_tried_0 {l : Launch} {g : AG} {h : AH} {x0 : Nat}  {Q : Int32 → AH → Prop} (hb : (Is 194 x0 11) ∧ ( ∀ h2 : AH, h2 = ax_setI h x0 0 0 → ( Q (h2.1 x0 41) h2))) : L_X12_tried_0 l g h x0  Q := by
  obtain ⟨i1, hb⟩ := hb
  refine wp_aload_n 0 dX12_tried_0 rfl rfl ?_
  refine wp_iconst (v := 0) dX12_tried_1 (by decide) ?_
  refine wp_putI dX12_tried_2 fl_X12_1 (Or.inl rfl) i1 ?_
  refine wp_topH (fun h2 e3 => ?_)
  have hb := hb h2 e3
  refine wp_aload_n 0 dX12_tried_5 rfl rfl ?_
  refine wp_getI dX12_tried_6 fl_X12_104 i1 ?_
  exact wp_iret rfl dX12_tried_9 ⟨_, rfl, hb⟩
theorem c_X12_tried {l : Launch} {g : AG} {h : AH} {x0 : Nat}  {Q : Int32 → AH → Prop} (hb : L_X12_tried_0 l g h x0  Q) : C_X12_tried l g h x0  Q := ax_met rfl (Nat.le_of_ble_eq_true rfl) hb
def C_X12_shorter (l : Launch) (g : AG) (h : AH) (x0 : Nat) (x1 : Int32)  (Q : Int32 → AH → Prop) : Prop := Ct l g mX12_shorter 4 92 194 194 h [.ref x0, .int x1] (ax_QI Q)
def L_X12_shorter_0 (l : Launch) (g : AG) (h : AH) (x0 : Nat) (x1 : Int32)  (Q : Int32 → AH → Prop) : Prop := Wp l g mX12_shorter 4 92 194 194 194 0 [(0, .ref x0), (1, .int x1)] [] h (FM g 194 194 (ax_QI Q))
def L_X12_shorter_51 (l : Launch) (g : AG) (h : AH) (x0 : Nat) (x1 : Int32) (x2 : Int32) (x3 : Int32)  (Q : Int32 → AH → Prop) : Prop := Wp l g mX12_shorter 4 92 194 194 194 51 [(0, .ref x0), (1, .int x1), (2, .int x2), (3, .int x3)] [] h (FM g 194 194 (ax_QI Q))
def L_X12_shorter_65 (l : Launch) (g : AG) (h : AH) (x0 : Nat) (x1 : Int32) (x2 : Int32) (x3 : Int32) (x4 : Int32)  (Q : Int32 → AH → Prop) : Prop := Wp l g mX12_shorter 4 92 194 194 194 65 [(0, .ref x0), (1, .int x1), (2, .int x2), (3, .int x3), (4, .int x4)] [] h (FM g 194 194 (ax_QI Q))
def L_X12_shorter_95 (l : Launch) (g : AG) (h : AH) (x0 : Nat) (x1 : Int32) (x2 : Int32) (x4 : Int32) (x5 : Int32)  (Q : Int32 → AH → Prop) : Prop := Wp l g mX12_shorter 4 92 194 194 194 95 [(0, .ref x0), (1, .int x1), (2, .int x2), (4, .int x4), (5, .int x5)] [] h (FM g 194 194 (ax_QI Q))
set_option maxRecDepth 100000 in
set_option maxHeartbeats 4000000 in
theorem s_X12_shorter_0 {l : Launch} {g : AG} {h : AH} {x0 : Nat} {x1 : Int32}  {Q : Int32 → AH → Prop} (hb : (Is 194 x0 11) ∧ ( ∀ h2 : AH, h2 = ax_setI h x0 0 0 → ( C_X12_isApp l g h2 x0 x1 (fun r6 h5 => ( ((¬ r6 = 0 → ((Is 194 (h5.2.2 x0 4) 25) ∧ ( (vp_in x1 (ax_s (h5.2.2 x0 4)).2) ∧ ( (Is 194 (h5.2.2 (h5.2.2 x0 4) x1.toNatClampNeg) 9) ∧ ( C_X12_comes l g h5 x0 (h5.2.2 (h5.2.2 x0 4) x1.toNatClampNeg) (-1) (fun r13 h12 => ( ((¬ r13 = 0 → (∀ h15 : AH, h15 = ax_setI h12 x0 40 (h12.1 x0 42) → ( L_X12_shorter_51 l g h15 x0 x1 r13 1  Q))) ∧ (r13 = 0 → (C_X12_refused l g h12 x0 4 (fun r19 h18 => ( Q r19 h18)))))))))))) ∧ (r6 = 0 → (C_X12_refused l g h5 x0 1 (fun r22 h21 => ( Q r22 h21)))))))))) : L_X12_shorter_0 l g h x0 x1  Q := by
  obtain ⟨i1, hb⟩ := hb
  refine wp_aload_n 0 dX12_shorter_0 rfl rfl ?_
  refine wp_iconst (v := 0) dX12_shorter_1 (by decide) ?_
  refine wp_putI dX12_shorter_2 fl_X12_1 (Or.inl rfl) i1 ?_
  refine wp_topH (fun h2 e3 => ?_)
  have hb := hb h2 e3
  refine wp_aload_n 0 dX12_shorter_5 rfl rfl ?_
  refine wp_iload_n 1 dX12_shorter_6 rfl rfl ?_
  refine wp_callV (as := [.int x1]) dX12_shorter_7 cb_X12_isApp lk_X12_340 im_X12_isApp se_X12_isApp rfl (Nat.le_of_ble_eq_true rfl) ⟨by decide, by decide⟩ ⟨Nat.le_refl _, Nat.le_refl _, Nat.le_refl _⟩ i1 rfl (by decide) hb (fun r0 h5 hb => ?_)
  obtain ⟨r6, rfl, hb⟩ := hb
  refine wp_if_ne (tgt := 19) dX12_shorter_10 (by decide) (fun c7 => ?_) (fun c7 => ?_)
  · have hb := hb.1 c7
    refine wp_aload_n 0 dX12_shorter_19 rfl rfl ?_
    refine wp_aload_n 0 dX12_shorter_20 rfl rfl ?_
    obtain ⟨i8, hb⟩ := hb
    refine wp_getR dX12_shorter_21 fl_X12_21 i1 (i8.ne (by decide)) ?_
    refine wp_iload_n 1 dX12_shorter_24 rfl rfl ?_
    obtain ⟨b9, hb⟩ := hb
    obtain ⟨i10, hb⟩ := hb
    refine wp_aaload25 dX12_shorter_25 i8 b9 (i10.ne (by decide)) ?_
    refine wp_iconst (v := (-1)) dX12_shorter_26 (by decide) ?_
    refine wp_callV (as := [.ref (h5.2.2 (h5.2.2 x0 4) x1.toNatClampNeg), .int (-1)]) dX12_shorter_27 cb_X12_comes lk_X12_421 im_X12_comes se_X12_comes rfl (Nat.le_of_ble_eq_true rfl) ⟨by decide, by decide⟩ ⟨Nat.le_refl _, Nat.le_refl _, Nat.le_refl _⟩ i1 rfl (by decide) hb (fun r0 h12 hb => ?_)
    obtain ⟨r13, rfl, hb⟩ := hb
    refine wp_istore_n (lv2 := [(2, .int r13), (0, .ref x0), (1, .int x1)]) dX12_shorter_30 rfl (by decide) rfl ?_
    refine wp_iload_n 0 dX12_shorter_31 rfl rfl ?_
    refine wp_if_ne (tgt := 41) dX12_shorter_32 (by decide) (fun c14 => ?_) (fun c14 => ?_)
    · have hb := hb.1 c14
      refine wp_aload_n 1 dX12_shorter_41 rfl rfl ?_
      refine wp_aload_n 1 dX12_shorter_42 rfl rfl ?_
      refine wp_getI dX12_shorter_43 fl_X12_418 i1 ?_
      refine wp_putI dX12_shorter_46 fl_X12_415 (Or.inl rfl) i1 ?_
      refine wp_topH (fun h15 e16 => ?_)
      have hb := hb h15 e16
      refine wp_iconst (v := 1) dX12_shorter_49 (by decide) ?_
      refine wp_istore_n (lv2 := [(3, .int 1), (2, .int r13), (0, .ref x0), (1, .int x1)]) dX12_shorter_50 rfl (by decide) rfl ?_
      exact wp_sub [2, 3, 1, 0] rfl hb
    · have hb := hb.2 c14
      refine wp_aload_n 1 dX12_shorter_35 rfl rfl ?_
      refine wp_iconst (v := 4) dX12_shorter_36 (by decide) ?_
      refine wp_callV (as := [.int 4]) dX12_shorter_37 cb_X12_refused lk_X12_316 im_X12_refused se_X12_refused rfl (Nat.le_of_ble_eq_true rfl) ⟨by decide, by decide⟩ ⟨Nat.le_refl _, Nat.le_refl _, Nat.le_refl _⟩ i1 rfl (by decide) hb (fun r0 h18 hb => ?_)
      obtain ⟨r19, rfl, hb⟩ := hb
      exact wp_iret rfl dX12_shorter_40 ⟨_, rfl, hb⟩
  · have hb := hb.2 c7
    refine wp_aload_n 0 dX12_shorter_13 rfl rfl ?_
    refine wp_iconst (v := 1) dX12_shorter_14 (by decide) ?_
    refine wp_callV (as := [.int 1]) dX12_shorter_15 cb_X12_refused lk_X12_316 im_X12_refused se_X12_refused rfl (Nat.le_of_ble_eq_true rfl) ⟨by decide, by decide⟩ ⟨Nat.le_refl _, Nat.le_refl _, Nat.le_refl _⟩ i1 rfl (by decide) hb (fun r0 h21 hb => ?_)
    obtain ⟨r22, rfl, hb⟩ := hb
    exact wp_iret rfl dX12_shorter_18 ⟨_, rfl, hb⟩
set_option maxRecDepth 100000 in
set_option maxHeartbeats 4000000 in
theorem s_X12_shorter_51 {l : Launch} {g : AG} {h : AH} {x0 : Nat} {x1 : Int32} {x2 : Int32} {x3 : Int32}  {Q : Int32 → AH → Prop} (hb : ((x3 = 0 → ((Is 194 x0 11) ∧ ( C_X12_done l g h x0 (h.1 x0 40) (fun r27 h26 => ( Q r27 h26))))) ∧ (¬ (x3 = 0) → ((Is 194 x0 11) ∧ ( ∀ v29 : Int32, v29 = ((h.1 x0 40) - 1) → ( L_X12_shorter_65 l g h x0 x1 x2 0 v29  Q)))))) : L_X12_shorter_51 l g h x0 x1 x2 x3  Q := by
  refine wp_iload_n 3 dX12_shorter_51 rfl rfl ?_
  refine wp_if_eq (tgt := 147) dX12_shorter_52 (by decide) (fun c23 => ?_) (fun c23 => ?_)
  · have hb := hb.1 c23
    obtain ⟨i24, hb⟩ := hb
    refine wp_aload_n 0 dX12_shorter_147 rfl rfl ?_
    refine wp_aload_n 0 dX12_shorter_148 rfl rfl ?_
    refine wp_getI dX12_shorter_149 fl_X12_415 i24 ?_
    refine wp_callV (as := [.int (h.1 x0 40)]) dX12_shorter_152 cb_X12_done lk_X12_337 im_X12_done se_X12_done rfl (Nat.le_of_ble_eq_true rfl) ⟨by decide, by decide⟩ ⟨Nat.le_refl _, Nat.le_refl _, Nat.le_refl _⟩ i24 rfl (by decide) hb (fun r0 h26 hb => ?_)
    obtain ⟨r27, rfl, hb⟩ := hb
    exact wp_iret rfl dX12_shorter_155 ⟨_, rfl, hb⟩
  · have hb := hb.2 c23
    refine wp_iconst (v := 0) dX12_shorter_55 (by decide) ?_
    refine wp_istore_n (lv2 := [(3, .int 0), (0, .ref x0), (1, .int x1), (2, .int x2)]) dX12_shorter_56 rfl (by decide) rfl ?_
    obtain ⟨i28, hb⟩ := hb
    refine wp_aload_n 1 dX12_shorter_57 rfl rfl ?_
    refine wp_getI dX12_shorter_58 fl_X12_415 i28 ?_
    refine wp_iconst (v := 1) dX12_shorter_61 (by decide) ?_
    refine wp_isub dX12_shorter_62 ?_
    refine wp_topi (fun v29 e30 => ?_)
    have hb := hb v29 e30
    refine wp_istore (lv2 := [(4, .int v29), (3, .int 0), (0, .ref x0), (1, .int x1), (2, .int x2)]) dX12_shorter_63 (by decide) rfl ?_
    exact wp_sub [2, 3, 4, 1, 0] rfl hb
set_option maxRecDepth 100000 in
set_option maxHeartbeats 4000000 in
theorem s_X12_shorter_65 {l : Launch} {g : AG} {h : AH} {x0 : Nat} {x1 : Int32} {x2 : Int32} {x3 : Int32} {x4 : Int32}  {Q : Int32 → AH → Prop} (hb : ((x4 < 0 → (L_X12_shorter_51 l g h x0 x1 x2 x3  Q)) ∧ (¬ (x4 < 0) → ((Is 194 x0 11) ∧ ( (Is 194 (h.2.2 x0 4) 25) ∧ ( (vp_in x1 (ax_s (h.2.2 x0 4)).2) ∧ ( (Is 194 (h.2.2 (h.2.2 x0 4) x1.toNatClampNeg) 9) ∧ ( C_X12_comes l g h x0 (h.2.2 (h.2.2 x0 4) x1.toNatClampNeg) x4 (fun r38 h37 => ( ((r38 = x2 → (∀ v40 : Int32, v40 = (x4 + 1) → ( L_X12_shorter_95 l g h37 x0 x1 x2 x4 v40  Q))) ∧ (¬ (r38 = x2) → (∀ v42 : Int32, v42 = x4 + (-1) → ( L_X12_shorter_65 l g h37 x0 x1 x2 x3 v42  Q)))))))))))))) : L_X12_shorter_65 l g h x0 x1 x2 x3 x4  Q := by
  refine wp_iload 4 dX12_shorter_65 rfl ?_
  refine wp_if_lt (tgt := 144) dX12_shorter_67 (by decide) (fun c31 => ?_) (fun c31 => ?_)
  · have hb := hb.1 c31
    refine wp_goto (tgt := 51) dX12_shorter_144 (by decide) ?_
    exact wp_sub [0, 1, 2, 3] rfl hb
  · have hb := hb.2 c31
    obtain ⟨i32, hb⟩ := hb
    refine wp_aload_n 0 dX12_shorter_70 rfl rfl ?_
    refine wp_aload_n 0 dX12_shorter_71 rfl rfl ?_
    obtain ⟨i33, hb⟩ := hb
    refine wp_getR dX12_shorter_72 fl_X12_21 i32 (i33.ne (by decide)) ?_
    refine wp_iload_n 1 dX12_shorter_75 rfl rfl ?_
    obtain ⟨b34, hb⟩ := hb
    obtain ⟨i35, hb⟩ := hb
    refine wp_aaload25 dX12_shorter_76 i33 b34 (i35.ne (by decide)) ?_
    refine wp_iload 4 dX12_shorter_77 rfl ?_
    refine wp_callV (as := [.ref (h.2.2 (h.2.2 x0 4) x1.toNatClampNeg), .int x4]) dX12_shorter_79 cb_X12_comes lk_X12_421 im_X12_comes se_X12_comes rfl (Nat.le_of_ble_eq_true rfl) ⟨by decide, by decide⟩ ⟨Nat.le_refl _, Nat.le_refl _, Nat.le_refl _⟩ i32 rfl (by decide) hb (fun r0 h37 hb => ?_)
    obtain ⟨r38, rfl, hb⟩ := hb
    refine wp_iload_n 2 dX12_shorter_82 rfl rfl ?_
    refine wp_icmp_eq (tgt := 89) dX12_shorter_83 (by decide) (fun c39 => ?_) (fun c39 => ?_)
    · have hb := hb.1 c39
      refine wp_iload 4 dX12_shorter_89 rfl ?_
      refine wp_iconst (v := 1) dX12_shorter_91 (by decide) ?_
      refine wp_iadd dX12_shorter_92 ?_
      refine wp_topi (fun v40 e41 => ?_)
      have hb := hb v40 e41
      refine wp_istore (lv2 := [(5, .int v40), (0, .ref x0), (1, .int x1), (2, .int x2), (3, .int x3), (4, .int x4)]) dX12_shorter_93 (by decide) rfl ?_
      exact wp_sub [1, 2, 3, 5, 0] rfl hb
    · have hb := hb.2 c39
      refine wp_goto (tgt := 138) dX12_shorter_86 (by decide) ?_
      obtain ⟨v42, e43⟩ : ∃ y : Int32, y = x4 + (-1) := ⟨_, rfl⟩
      have hb := hb v42 e43
      refine wp_iinc (v := v42) (lv2 := [(4, .int v42), (0, .ref x0), (1, .int x1), (2, .int x2), (3, .int x3)]) 4 dX12_shorter_138 rfl (by rw [e43]; rfl) (by decide) rfl ?_
      refine wp_goto (tgt := 65) dX12_shorter_141 (by decide) ?_
      exact wp_sub [1, 2, 3, 4, 0] rfl hb
set_option maxRecDepth 100000 in
set_option maxHeartbeats 4000000 in
theorem s_X12_shorter_95 {l : Launch} {g : AG} {h : AH} {x0 : Nat} {x1 : Int32} {x2 : Int32} {x4 : Int32} {x5 : Int32}  {Q : Int32 → AH → Prop} (hb : (Is 194 x0 11) ∧ ( ((h.1 x0 40 ≤ x5 → (∀ h46 : AH, h46 = ax_setI h x0 40 ((h.1 x0 40) - 1) → ( ∀ v48 : Int32, v48 = x4 + (-1) → ( L_X12_shorter_65 l g h46 x0 x1 x2 1 v48  Q)))) ∧ (¬ (h.1 x0 40 ≤ x5) → ((Is 194 (h.2.2 x0 39) 20) ∧ ( (Is 194 (h.2.2 x0 39) 20) ∧ ( (vp_in x5 (ax_s (h.2.2 x0 39)).2) ∧ ( (vp_in (x5 - 1) (ax_s (h.2.2 x0 39)).2) ∧ ( ∀ h54 : AH, h54 = ax_setI h (h.2.2 x0 39) (x5 - 1).toNatClampNeg (h.1 (h.2.2 x0 39) x5.toNatClampNeg) → ( ∀ v56 : Int32, v56 = x5 + (1) → ( L_X12_shorter_95 l g h54 x0 x1 x2 x4 v56  Q))))))))))) : L_X12_shorter_95 l g h x0 x1 x2 x4 x5  Q := by
  refine wp_iload 4 dX12_shorter_95 rfl ?_
  obtain ⟨i44, hb⟩ := hb
  refine wp_aload_n 0 dX12_shorter_97 rfl rfl ?_
  refine wp_getI dX12_shorter_98 fl_X12_415 i44 ?_
  refine wp_icmp_ge (tgt := 126) dX12_shorter_101 (by decide) (fun c45 => ?_) (fun c45 => ?_)
  · have hb := hb.1 c45
    refine wp_aload_n 0 dX12_shorter_126 rfl rfl ?_
    refine wp_dup dX12_shorter_127 rfl ?_
    refine wp_getI dX12_shorter_128 fl_X12_415 i44 ?_
    refine wp_iconst (v := 1) dX12_shorter_131 (by decide) ?_
    refine wp_isub dX12_shorter_132 ?_
    refine wp_putI dX12_shorter_133 fl_X12_415 (Or.inl rfl) i44 ?_
    refine wp_topH (fun h46 e47 => ?_)
    have hb := hb h46 e47
    refine wp_iconst (v := 1) dX12_shorter_136 (by decide) ?_
    refine wp_istore_n (lv2 := [(3, .int 1), (0, .ref x0), (1, .int x1), (2, .int x2), (4, .int x4), (5, .int x5)]) dX12_shorter_137 rfl (by decide) rfl ?_
    obtain ⟨v48, e49⟩ : ∃ y : Int32, y = x4 + (-1) := ⟨_, rfl⟩
    have hb := hb v48 e49
    refine wp_iinc (v := v48) (lv2 := [(4, .int v48), (3, .int 1), (0, .ref x0), (1, .int x1), (2, .int x2), (5, .int x5)]) 4 dX12_shorter_138 rfl (by rw [e49]; rfl) (by decide) rfl ?_
    refine wp_goto (tgt := 65) dX12_shorter_141 (by decide) ?_
    exact wp_sub [2, 3, 4, 1, 0] rfl hb
  · have hb := hb.2 c45
    refine wp_aload_n 0 dX12_shorter_104 rfl rfl ?_
    obtain ⟨i50, hb⟩ := hb
    refine wp_getR dX12_shorter_105 fl_X12_101 i44 (i50.ne (by decide)) ?_
    refine wp_iload 4 dX12_shorter_108 rfl ?_
    refine wp_iconst (v := 1) dX12_shorter_110 (by decide) ?_
    refine wp_isub dX12_shorter_111 ?_
    refine wp_aload_n 0 dX12_shorter_112 rfl rfl ?_
    obtain ⟨i51, hb⟩ := hb
    refine wp_getR dX12_shorter_113 fl_X12_101 i44 (i51.ne (by decide)) ?_
    refine wp_iload 4 dX12_shorter_116 rfl ?_
    obtain ⟨b52, hb⟩ := hb
    refine wp_iaload dX12_shorter_118 i51 b52 ?_
    obtain ⟨b53, hb⟩ := hb
    refine wp_iastore dX12_shorter_119 i50 b53 ?_
    refine wp_topH (fun h54 e55 => ?_)
    have hb := hb h54 e55
    obtain ⟨v56, e57⟩ : ∃ y : Int32, y = x5 + (1) := ⟨_, rfl⟩
    have hb := hb v56 e57
    refine wp_iinc (v := v56) (lv2 := [(5, .int v56), (0, .ref x0), (1, .int x1), (2, .int x2), (4, .int x4)]) 4 dX12_shorter_120 rfl (by rw [e57]; rfl) (by decide) rfl ?_
    refine wp_goto (tgt := 95) dX12_shorter_123 (by decide) ?_
    exact wp_sub [1, 2, 3, 4, 0] rfl hb
theorem c_X12_shorter {l : Launch} {g : AG} {h : AH} {x0 : Nat} {x1 : Int32}  {Q : Int32 → AH → Prop} (hb : L_X12_shorter_0 l g h x0 x1  Q) : C_X12_shorter l g h x0 x1  Q := ax_met rfl (Nat.le_of_ble_eq_true rfl) hb
