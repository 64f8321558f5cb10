def C_X12_begins (l : Launch) (g : AG) (h : AH) (x0 : Nat)  (Q : AH → Prop) : Prop := Ct l g mX12_begins 0 0 194 194 h [.ref x0] (ax_QV Q)
def L_X12_begins_0 (l : Launch) (g : AG) (h : AH) (x0 : Nat)  (Q : AH → Prop) : Prop := Wp l g mX12_begins 0 0 194 194 194 0 [(0, .ref x0)] [] h (FM g 194 194 (ax_QV Q))
def L_X12_begins_26 (l : Launch) (g : AG) (h : AH) (x0 : Nat) (x1 : Int32)  (Q : AH → Prop) : Prop := Wp l g mX12_begins 0 0 194 194 194 26 [(0, .ref x0), (1, .int x1)] [] h (FM g 194 194 (ax_QV Q))
set_option maxRecDepth 100000 in
set_option maxHeartbeats 4000000 in
theorem s_X12_begins_0 {l : Launch} {g : AG} {h : AH} {x0 : Nat}  {Q : AH → Prop} (hb : (Is 194 x0 11) ∧ ( ∀ h2 : AH, h2 = ax_setI h x0 19 0 → ( ∀ h4 : AH, h4 = ax_setI h2 x0 20 1 → ( (Is 194 (h4.2.2 x0 21) 20) ∧ ( (vp_in 0 (ax_s (h4.2.2 x0 21)).2) ∧ ( ∀ h8 : AH, h8 = ax_setI h4 (h4.2.2 x0 21) (0 : Int32).toNatClampNeg 0 → ( (Is 194 (h8.2.2 x0 22) 20) ∧ ( (vp_in 0 (ax_s (h8.2.2 x0 22)).2) ∧ ( ∀ h12 : AH, h12 = ax_setI h8 (h8.2.2 x0 22) (0 : Int32).toNatClampNeg 0 → ( L_X12_begins_26 l g h12 x0 0  Q)))))))))) : L_X12_begins_0 l g h x0  Q := by
  obtain ⟨i1, hb⟩ := hb
  refine wp_aload_n 0 dX12_begins_0 rfl rfl ?_
  refine wp_iconst (v := 0) dX12_begins_1 (by decide) ?_
  refine wp_putI dX12_begins_2 fl_X12_343 (Or.inl rfl) i1 ?_
  refine wp_topH (fun h2 e3 => ?_)
  have hb := hb h2 e3
  refine wp_aload_n 0 dX12_begins_5 rfl rfl ?_
  refine wp_iconst (v := 1) dX12_begins_6 (by decide) ?_
  refine wp_putI dX12_begins_7 fl_X12_346 (Or.inl rfl) i1 ?_
  refine wp_topH (fun h4 e5 => ?_)
  have hb := hb h4 e5
  refine wp_aload_n 0 dX12_begins_10 rfl rfl ?_
  obtain ⟨i6, hb⟩ := hb
  refine wp_getR dX12_begins_11 fl_X12_52 i1 (i6.ne (by decide)) ?_
  refine wp_iconst (v := 0) dX12_begins_14 (by decide) ?_
  refine wp_iconst (v := 0) dX12_begins_15 (by decide) ?_
  obtain ⟨b7, hb⟩ := hb
  refine wp_iastore dX12_begins_16 i6 b7 ?_
  refine wp_topH (fun h8 e9 => ?_)
  have hb := hb h8 e9
  refine wp_aload_n 0 dX12_begins_17 rfl rfl ?_
  obtain ⟨i10, hb⟩ := hb
  refine wp_getR dX12_begins_18 fl_X12_56 i1 (i10.ne (by decide)) ?_
  refine wp_iconst (v := 0) dX12_begins_21 (by decide) ?_
  refine wp_iconst (v := 0) dX12_begins_22 (by decide) ?_
  obtain ⟨b11, hb⟩ := hb
  refine wp_iastore dX12_begins_23 i10 b11 ?_
  refine wp_topH (fun h12 e13 => ?_)
  have hb := hb h12 e13
  refine wp_iconst (v := 0) dX12_begins_24 (by decide) ?_
  refine wp_istore_n (lv2 := [(1, .int 0), (0, .ref x0)]) dX12_begins_25 rfl (by decide) rfl ?_
  exact wp_sub [1, 0] rfl hb
set_option maxRecDepth 100000 in
set_option maxHeartbeats 4000000 in
theorem s_X12_begins_26 {l : Launch} {g : AG} {h : AH} {x0 : Nat} {x1 : Int32}  {Q : AH → Prop} (hb : ((6 ≤ x1 → (Q h)) ∧ (¬ (6 ≤ x1) → ((Is 194 x0 11) ∧ ( (Is 194 (h.2.2 x0 23) 20) ∧ ( (vp_in x1 (ax_s (h.2.2 x0 23)).2) ∧ ( ∀ h18 : AH, h18 = ax_setI h (h.2.2 x0 23) x1.toNatClampNeg 0 → ( ∀ v20 : Int32, v20 = x1 + (1) → ( L_X12_begins_26 l g h18 x0 v20  Q))))))))) : L_X12_begins_26 l g h x0 x1  Q := by
  refine wp_iload_n 1 dX12_begins_26 rfl rfl ?_
  refine wp_bipush (v := 6) dX12_begins_27 (by decide) ?_
  refine wp_icmp_ge (tgt := 45) dX12_begins_29 (by decide) (fun c14 => ?_) (fun c14 => ?_)
  · have hb := hb.1 c14
    exact wp_vret rfl dX12_begins_45 ⟨rfl, hb⟩
  · have hb := hb.2 c14
    obtain ⟨i15, hb⟩ := hb
    refine wp_aload_n 0 dX12_begins_32 rfl rfl ?_
    obtain ⟨i16, hb⟩ := hb
    refine wp_getR dX12_begins_33 fl_X12_59 i15 (i16.ne (by decide)) ?_
    refine wp_iload_n 1 dX12_begins_36 rfl rfl ?_
    refine wp_iconst (v := 0) dX12_begins_37 (by decide) ?_
    obtain ⟨b17, hb⟩ := hb
    refine wp_iastore dX12_begins_38 i16 b17 ?_
    refine wp_topH (fun h18 e19 => ?_)
    have hb := hb h18 e19
    obtain ⟨v20, e21⟩ : ∃ y : Int32, y = x1 + (1) := ⟨_, rfl⟩
    have hb := hb v20 e21
    refine wp_iinc (v := v20) (lv2 := [(1, .int v20), (0, .ref x0)]) 1 dX12_begins_39 rfl (by rw [e21]; rfl) (by decide) rfl ?_
    refine wp_goto (tgt := 26) dX12_begins_42 (by decide) ?_
    exact wp_sub [1, 0] rfl hb
theorem c_X12_begins {l : Launch} {g : AG} {h : AH} {x0 : Nat}  {Q : AH → Prop} (hb : L_X12_begins_0 l g h x0  Q) : C_X12_begins l g h x0  Q := ax_met rfl (Nat.le_of_ble_eq_true rfl) hb
def C_X12_packed (l : Launch) (g : AG) (h : AH) (x0 : Nat)  (Q : Int64 → AH → Prop) : Prop := Ct l g mX12_packed 0 0 194 194 h [.ref x0] (ax_QL Q)
def L_X12_packed_0 (l : Launch) (g : AG) (h : AH) (x0 : Nat)  (Q : Int64 → AH → Prop) : Prop := Wp l g mX12_packed 0 0 194 194 194 0 [(0, .ref x0)] [] h (FM g 194 194 (ax_QL Q))
def L_X12_packed_18 (l : Launch) (g : AG) (h : AH) (x0 : Nat) (x1 : Int64) (x3 : Int32)  (Q : Int64 → AH → Prop) : Prop := Wp l g mX12_packed 0 0 194 194 194 18 [(0, .ref x0), (1, .long x1), (3, .int x3)] [] h (FM g 194 194 (ax_QL Q))
set_option maxRecDepth 100000 in
set_option maxHeartbeats 4000000 in
theorem s_X12_packed_0 {l : Launch} {g : AG} {h : AH} {x0 : Nat}  {Q : Int64 → AH → Prop} (hb : (Is 194 x0 11) ∧ ( ∀ v2 : Int64, v2 = ((h.1 x0 19).toInt64) → ( ∀ v4 : Int64, v4 = ((jlshl v2 3) ||| ((h.1 x0 20).toInt64)) → ( L_X12_packed_18 l g h x0 v4 0  Q)))) : L_X12_packed_0 l g h x0  Q := by
  obtain ⟨i1, hb⟩ := hb
  refine wp_aload_n 0 dX12_packed_0 rfl rfl ?_
  refine wp_getI dX12_packed_1 fl_X12_343 i1 ?_
  refine wp_i2l dX12_packed_4 ?_
  refine wp_topl (fun v2 e3 => ?_)
  have hb := hb v2 e3
  refine wp_lstore_n (lv2 := [(1, .long v2), (0, .ref x0)]) dX12_packed_5 rfl (by decide) rfl ?_
  refine wp_lload_n 0 dX12_packed_6 rfl rfl ?_
  refine wp_iconst (v := 3) dX12_packed_7 (by decide) ?_
  refine wp_lshl dX12_packed_8 ?_
  refine wp_aload_n 1 dX12_packed_9 rfl rfl ?_
  refine wp_getI dX12_packed_10 fl_X12_346 i1 ?_
  refine wp_i2l dX12_packed_13 ?_
  refine wp_lor dX12_packed_14 ?_
  refine wp_topl (fun v4 e5 => ?_)
  have hb := hb v4 e5
  refine wp_lstore_n (lv2 := [(1, .long v4), (0, .ref x0)]) dX12_packed_15 rfl (by decide) rfl ?_
  refine wp_iconst (v := 0) dX12_packed_16 (by decide) ?_
  refine wp_istore_n (lv2 := [(3, .int 0), (1, .long v4), (0, .ref x0)]) dX12_packed_17 rfl (by decide) rfl ?_
  exact wp_sub [2, 1, 0] rfl hb
set_option maxRecDepth 100000 in
set_option maxHeartbeats 4000000 in
theorem s_X12_packed_18 {l : Launch} {g : AG} {h : AH} {x0 : Nat} {x1 : Int64} {x3 : Int32}  {Q : Int64 → AH → Prop} (hb : ((5 ≤ x3 → (Q x1 h)) ∧ (¬ (5 ≤ x3) → ((Is 194 x0 11) ∧ ( ((h.1 x0 20 ≤ x3 → (∀ v9 : Int64, v9 = ((jlshl x1 7) ||| ((0 : Int32).toInt64)) → ( ∀ v11 : Int32, v11 = x3 + (1) → ( L_X12_packed_18 l g h x0 v9 v11  Q)))) ∧ (¬ (h.1 x0 20 ≤ x3) → ((Is 194 (h.2.2 x0 21) 20) ∧ ( (vp_in x3 (ax_s (h.2.2 x0 21)).2) ∧ ( (Is 194 (h.2.2 x0 22) 20) ∧ ( (vp_in x3 (ax_s (h.2.2 x0 22)).2) ∧ ( ∀ v17 : Int32, v17 = ((jishl (h.1 (h.2.2 x0 21) x3.toNatClampNeg) 4) ||| (h.1 (h.2.2 x0 22) x3.toNatClampNeg)) → ( ∀ v19 : Int64, v19 = ((jlshl x1 7) ||| v17.toInt64) → ( ∀ v21 : Int32, v21 = x3 + (1) → ( L_X12_packed_18 l g h x0 v19 v21  Q))))))))))))))) : L_X12_packed_18 l g h x0 x1 x3  Q := by
  refine wp_iload_n 2 dX12_packed_18 rfl rfl ?_
  refine wp_iconst (v := 5) dX12_packed_19 (by decide) ?_
  refine wp_icmp_ge (tgt := 63) dX12_packed_20 (by decide) (fun c6 => ?_) (fun c6 => ?_)
  · have hb := hb.1 c6
    refine wp_lload_n 1 dX12_packed_63 rfl rfl ?_
    exact wp_lret rfl dX12_packed_64 ⟨_, rfl, hb⟩
  · have hb := hb.2 c6
    refine wp_lload_n 1 dX12_packed_23 rfl rfl ?_
    refine wp_bipush (v := 7) dX12_packed_24 (by decide) ?_
    refine wp_lshl dX12_packed_26 ?_
    refine wp_iload_n 2 dX12_packed_27 rfl rfl ?_
    obtain ⟨i7, hb⟩ := hb
    refine wp_aload_n 0 dX12_packed_28 rfl rfl ?_
    refine wp_getI dX12_packed_29 fl_X12_346 i7 ?_
    refine wp_icmp_ge (tgt := 53) dX12_packed_32 (by decide) (fun c8 => ?_) (fun c8 => ?_)
    · have hb := hb.1 c8
      refine wp_iconst (v := 0) dX12_packed_53 (by decide) ?_
      refine wp_i2l dX12_packed_54 ?_
      refine wp_lor dX12_packed_55 ?_
      refine wp_topl (fun v9 e10 => ?_)
      have hb := hb v9 e10
      refine wp_lstore_n (lv2 := [(1, .long v9), (0, .ref x0), (3, .int x3)]) dX12_packed_56 rfl (by decide) rfl ?_
      obtain ⟨v11, e12⟩ : ∃ y : Int32, y = x3 + (1) := ⟨_, rfl⟩
      have hb := hb v11 e12
      refine wp_iinc (v := v11) (lv2 := [(3, .int v11), (1, .long v9), (0, .ref x0)]) 2 dX12_packed_57 rfl (by rw [e12]; rfl) (by decide) rfl ?_
      refine wp_goto (tgt := 18) dX12_packed_60 (by decide) ?_
      exact wp_sub [2, 1, 0] rfl hb
    · have hb := hb.2 c8
      refine wp_aload_n 0 dX12_packed_35 rfl rfl ?_
      obtain ⟨i13, hb⟩ := hb
      refine wp_getR dX12_packed_36 fl_X12_52 i7 (i13.ne (by decide)) ?_
      refine wp_iload_n 2 dX12_packed_39 rfl rfl ?_
      obtain ⟨b14, hb⟩ := hb
      refine wp_iaload dX12_packed_40 i13 b14 ?_
      refine wp_iconst (v := 4) dX12_packed_41 (by decide) ?_
      refine wp_ishl dX12_packed_42 ?_
      refine wp_aload_n 0 dX12_packed_43 rfl rfl ?_
      obtain ⟨i15, hb⟩ := hb
      refine wp_getR dX12_packed_44 fl_X12_56 i7 (i15.ne (by decide)) ?_
      refine wp_iload_n 2 dX12_packed_47 rfl rfl ?_
      obtain ⟨b16, hb⟩ := hb
      refine wp_iaload dX12_packed_48 i15 b16 ?_
      refine wp_ior dX12_packed_49 ?_
      refine wp_topi (fun v17 e18 => ?_)
      have hb := hb v17 e18
      refine wp_goto (tgt := 54) dX12_packed_50 (by decide) ?_
      refine wp_i2l dX12_packed_54 ?_
      refine wp_lor dX12_packed_55 ?_
      refine wp_topl (fun v19 e20 => ?_)
      have hb := hb v19 e20
      refine wp_lstore_n (lv2 := [(1, .long v19), (0, .ref x0), (3, .int x3)]) dX12_packed_56 rfl (by decide) rfl ?_
      obtain ⟨v21, e22⟩ : ∃ y : Int32, y = x3 + (1) := ⟨_, rfl⟩
      have hb := hb v21 e22
      refine wp_iinc (v := v21) (lv2 := [(3, .int v21), (1, .long v19), (0, .ref x0)]) 2 dX12_packed_57 rfl (by rw [e22]; rfl) (by decide) rfl ?_
      refine wp_goto (tgt := 18) dX12_packed_60 (by decide) ?_
      exact wp_sub [2, 1, 0] rfl hb
theorem c_X12_packed {l : Launch} {g : AG} {h : AH} {x0 : Nat}  {Q : Int64 → AH → Prop} (hb : L_X12_packed_0 l g h x0  Q) : C_X12_packed l g h x0  Q := ax_met rfl (Nat.le_of_ble_eq_true rfl) hb
def C_X12_packedVars (l : Launch) (g : AG) (h : AH) (x0 : Nat)  (Q : Int64 → AH → Prop) : Prop := Ct l g mX12_packedVars 0 0 194 194 h [.ref x0] (ax_QL Q)
def L_X12_packedVars_0 (l : Launch) (g : AG) (h : AH) (x0 : Nat)  (Q : Int64 → AH → Prop) : Prop := Wp l g mX12_packedVars 0 0 194 194 194 0 [(0, .ref x0)] [] h (FM g 194 194 (ax_QL Q))
def L_X12_packedVars_4 (l : Launch) (g : AG) (h : AH) (x0 : Nat) (x1 : Int64) (x3 : Int32)  (Q : Int64 → AH → Prop) : Prop := Wp l g mX12_packedVars 0 0 194 194 194 4 [(0, .ref x0), (1, .long x1), (3, .int x3)] [] h (FM g 194 194 (ax_QL Q))
set_option maxRecDepth 100000 in
set_option maxHeartbeats 4000000 in
theorem s_X12_packedVars_0 {l : Launch} {g : AG} {h : AH} {x0 : Nat}  {Q : Int64 → AH → Prop} (hb : L_X12_packedVars_4 l g h x0 0 0  Q) : L_X12_packedVars_0 l g h x0  Q := by
  refine wp_lconst (v := 0) dX12_packedVars_0 (by decide) ?_
  refine wp_lstore_n (lv2 := [(1, .long 0), (0, .ref x0)]) dX12_packedVars_1 rfl (by decide) rfl ?_
  refine wp_iconst (v := 0) dX12_packedVars_2 (by decide) ?_
  refine wp_istore_n (lv2 := [(3, .int 0), (1, .long 0), (0, .ref x0)]) dX12_packedVars_3 rfl (by decide) rfl ?_
  exact wp_sub [2, 1, 0] rfl hb
set_option maxRecDepth 100000 in
set_option maxHeartbeats 4000000 in
theorem s_X12_packedVars_4 {l : Launch} {g : AG} {h : AH} {x0 : Nat} {x1 : Int64} {x3 : Int32}  {Q : Int64 → AH → Prop} (hb : ((6 ≤ x3 → (Q x1 h)) ∧ (¬ (6 ≤ x3) → ((Is 194 x0 11) ∧ ( (Is 194 (h.2.2 x0 23) 20) ∧ ( (vp_in x3 (ax_s (h.2.2 x0 23)).2) ∧ ( ∀ v5 : Int64, v5 = ((jlshl x1 4) ||| ((h.1 (h.2.2 x0 23) x3.toNatClampNeg).toInt64)) → ( ∀ v7 : Int32, v7 = x3 + (1) → ( L_X12_packedVars_4 l g h x0 v5 v7  Q))))))))) : L_X12_packedVars_4 l g h x0 x1 x3  Q := by
  refine wp_iload_n 2 dX12_packedVars_4 rfl rfl ?_
  refine wp_bipush (v := 6) dX12_packedVars_5 (by decide) ?_
  refine wp_icmp_ge (tgt := 28) dX12_packedVars_7 (by decide) (fun c1 => ?_) (fun c1 => ?_)
  · have hb := hb.1 c1
    refine wp_lload_n 1 dX12_packedVars_28 rfl rfl ?_
    exact wp_lret rfl dX12_packedVars_29 ⟨_, rfl, hb⟩
  · have hb := hb.2 c1
    refine wp_lload_n 1 dX12_packedVars_10 rfl rfl ?_
    refine wp_iconst (v := 4) dX12_packedVars_11 (by decide) ?_
    refine wp_lshl dX12_packedVars_12 ?_
    obtain ⟨i2, hb⟩ := hb
    refine wp_aload_n 0 dX12_packedVars_13 rfl rfl ?_
    obtain ⟨i3, hb⟩ := hb
    refine wp_getR dX12_packedVars_14 fl_X12_59 i2 (i3.ne (by decide)) ?_
    refine wp_iload_n 2 dX12_packedVars_17 rfl rfl ?_
    obtain ⟨b4, hb⟩ := hb
    refine wp_iaload dX12_packedVars_18 i3 b4 ?_
    refine wp_i2l dX12_packedVars_19 ?_
    refine wp_lor dX12_packedVars_20 ?_
    refine wp_topl (fun v5 e6 => ?_)
    have hb := hb v5 e6
    refine wp_lstore_n (lv2 := [(1, .long v5), (0, .ref x0), (3, .int x3)]) dX12_packedVars_21 rfl (by decide) rfl ?_
    obtain ⟨v7, e8⟩ : ∃ y : Int32, y = x3 + (1) := ⟨_, rfl⟩
    have hb := hb v7 e8
    refine wp_iinc (v := v7) (lv2 := [(3, .int v7), (1, .long v5), (0, .ref x0)]) 2 dX12_packedVars_22 rfl (by rw [e8]; rfl) (by decide) rfl ?_
    refine wp_goto (tgt := 4) dX12_packedVars_25 (by decide) ?_
    exact wp_sub [2, 1, 0] rfl hb
theorem c_X12_packedVars {l : Launch} {g : AG} {h : AH} {x0 : Nat}  {Q : Int64 → AH → Prop} (hb : L_X12_packedVars_0 l g h x0  Q) : C_X12_packedVars l g h x0  Q := ax_met rfl (Nat.le_of_ble_eq_true rfl) hb
