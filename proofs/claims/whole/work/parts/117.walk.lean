def C_X12_pressedAt (l : Launch) (g : AG) (h : AH) (x0 : Nat) (x1 : Int32)  (Q : Int32 → AH → Prop) : Prop := Ct l g mX12_pressedAt 1 21 194 194 h [.ref x0, .int x1] (ax_QI Q)
def L_X12_pressedAt_0 (l : Launch) (g : AG) (h : AH) (x0 : Nat) (x1 : Int32)  (Q : Int32 → AH → Prop) : Prop := Wp l g mX12_pressedAt 1 21 194 194 194 0 [(0, .ref x0), (1, .int x1)] [] h (FM g 194 194 (ax_QI Q))
def L_X12_pressedAt_48 (l : Launch) (g : AG) (h : AH) (x0 : Nat) (x1 : Int32) (x2 : Int32)  (Q : Int32 → AH → Prop) : Prop := Wp l g mX12_pressedAt 1 21 194 194 194 48 [(0, .ref x0), (1, .int x1), (2, .int x2)] [] h (FM g 194 194 (ax_QI Q))
def L_X12_pressedAt_75 (l : Launch) (g : AG) (h : AH) (x0 : Nat) (x2 : Int32)  (Q : Int32 → AH → Prop) : Prop := Wp l g mX12_pressedAt 1 21 194 194 194 75 [(0, .ref x0), (2, .int x2)] [] h (FM g 194 194 (ax_QI Q))
set_option maxRecDepth 100000 in
set_option maxHeartbeats 4000000 in
theorem s_X12_pressedAt_0 {l : Launch} {g : AG} {h : AH} {x0 : Nat} {x1 : Int32}  {Q : Int32 → AH → Prop} (hb : (Is 194 x0 11) ∧ ( ∀ h2 : AH, h2 = ax_setI h x0 0 0 → ( ((¬ h2.1 x0 24 = (-1) → (((x1 < 0 → (C_X12_refused l g h2 x0 1 (fun r8 h7 => ( Q r8 h7)))) ∧ (¬ (x1 < 0) → ((Is 194 (h2.2.2 x0 4) 25) ∧ ( (vp_in (h2.1 x0 24) (ax_s (h2.2.2 x0 4)).2) ∧ ( (Is 194 (h2.2.2 (h2.2.2 x0 4) (h2.1 x0 24).toNatClampNeg) 9) ∧ ( ((x1 < h2.1 (h2.2.2 (h2.2.2 x0 4) (h2.1 x0 24).toNatClampNeg) 1 → (L_X12_pressedAt_48 l g h2 x0 x1 0  Q)) ∧ (¬ (x1 < h2.1 (h2.2.2 (h2.2.2 x0 4) (h2.1 x0 24).toNatClampNeg) 1) → (C_X12_refused l g h2 x0 1 (fun r15 h14 => ( Q r15 h14))))))))))))) ∧ (h2.1 x0 24 = (-1) → (C_X12_refused l g h2 x0 6 (fun r18 h17 => ( Q r18 h17)))))))) : L_X12_pressedAt_0 l g h x0 x1  Q := by
  obtain ⟨i1, hb⟩ := hb
  refine wp_aload_n 0 dX12_pressedAt_0 rfl rfl ?_
  refine wp_iconst (v := 0) dX12_pressedAt_1 (by decide) ?_
  refine wp_putI dX12_pressedAt_2 fl_X12_1 (Or.inl rfl) i1 ?_
  refine wp_topH (fun h2 e3 => ?_)
  have hb := hb h2 e3
  refine wp_aload_n 0 dX12_pressedAt_5 rfl rfl ?_
  refine wp_getI dX12_pressedAt_6 fl_X12_62 i1 ?_
  refine wp_iconst (v := (-1)) dX12_pressedAt_9 (by decide) ?_
  refine wp_icmp_ne (tgt := 20) dX12_pressedAt_10 (by decide) (fun c4 => ?_) (fun c4 => ?_)
  · have hb := hb.1 c4
    refine wp_iload_n 1 dX12_pressedAt_20 rfl rfl ?_
    refine wp_if_lt (tgt := 40) dX12_pressedAt_21 (by decide) (fun c5 => ?_) (fun c5 => ?_)
    · have hb := hb.1 c5
      refine wp_aload_n 0 dX12_pressedAt_40 rfl rfl ?_
      refine wp_iconst (v := 1) dX12_pressedAt_41 (by decide) ?_
      refine wp_callV (as := [.int 1]) dX12_pressedAt_42 cb_X12_refused lk_X12_316 im_X12_refused se_X12_refused rfl (Nat.le_of_ble_eq_true rfl) ⟨by decide, by decide⟩ ⟨Nat.le_refl _, Nat.le_refl _, Nat.le_refl _⟩ i1 rfl (by decide) hb (fun r0 h7 hb => ?_)
      obtain ⟨r8, rfl, hb⟩ := hb
      exact wp_iret rfl dX12_pressedAt_45 ⟨_, rfl, hb⟩
    · have hb := hb.2 c5
      refine wp_iload_n 1 dX12_pressedAt_24 rfl rfl ?_
      refine wp_aload_n 0 dX12_pressedAt_25 rfl rfl ?_
      obtain ⟨i9, hb⟩ := hb
      refine wp_getR dX12_pressedAt_26 fl_X12_21 i1 (i9.ne (by decide)) ?_
      refine wp_aload_n 0 dX12_pressedAt_29 rfl rfl ?_
      refine wp_getI dX12_pressedAt_30 fl_X12_62 i1 ?_
      obtain ⟨b10, hb⟩ := hb
      obtain ⟨i11, hb⟩ := hb
      refine wp_aaload25 dX12_pressedAt_33 i9 b10 (i11.ne (by decide)) ?_
      refine wp_getI dX12_pressedAt_34 fl_X12_208 i11 ?_
      refine wp_icmp_lt (tgt := 46) dX12_pressedAt_37 (by decide) (fun c12 => ?_) (fun c12 => ?_)
      · have hb := hb.1 c12
        refine wp_iconst (v := 0) dX12_pressedAt_46 (by decide) ?_
        refine wp_istore_n (lv2 := [(2, .int 0), (0, .ref x0), (1, .int x1)]) dX12_pressedAt_47 rfl (by decide) rfl ?_
        exact wp_sub [1, 2, 0] rfl hb
      · have hb := hb.2 c12
        refine wp_aload_n 0 dX12_pressedAt_40 rfl rfl ?_
        refine wp_iconst (v := 1) dX12_pressedAt_41 (by decide) ?_
        refine wp_callV (as := [.int 1]) dX12_pressedAt_42 cb_X12_refused lk_X12_316 im_X12_refused se_X12_refused rfl (Nat.le_of_ble_eq_true rfl) ⟨by decide, by decide⟩ ⟨Nat.le_refl _, Nat.le_refl _, Nat.le_refl _⟩ i1 rfl (by decide) hb (fun r0 h14 hb => ?_)
        obtain ⟨r15, rfl, hb⟩ := hb
        exact wp_iret rfl dX12_pressedAt_45 ⟨_, rfl, hb⟩
  · have hb := hb.2 c4
    refine wp_aload_n 0 dX12_pressedAt_13 rfl rfl ?_
    refine wp_bipush (v := 6) dX12_pressedAt_14 (by decide) ?_
    refine wp_callV (as := [.int 6]) dX12_pressedAt_16 cb_X12_refused lk_X12_316 im_X12_refused se_X12_refused rfl (Nat.le_of_ble_eq_true rfl) ⟨by decide, by decide⟩ ⟨Nat.le_refl _, Nat.le_refl _, Nat.le_refl _⟩ i1 rfl (by decide) hb (fun r0 h17 hb => ?_)
    obtain ⟨r18, rfl, hb⟩ := hb
    exact wp_iret rfl dX12_pressedAt_19 ⟨_, rfl, hb⟩
set_option maxRecDepth 100000 in
set_option maxHeartbeats 4000000 in
theorem s_X12_pressedAt_48 {l : Launch} {g : AG} {h : AH} {x0 : Nat} {x1 : Int32} {x2 : Int32}  {Q : Int32 → AH → Prop} (hb : (Is 194 x0 11) ∧ ( ((h.1 x0 25 ≤ x2 → (L_X12_pressedAt_75 l g h x0 x2  Q)) ∧ (¬ (h.1 x0 25 ≤ x2) → ((Is 194 (h.2.2 x0 31) 20) ∧ ( (vp_in x2 (ax_s (h.2.2 x0 31)).2) ∧ ( ∀ v23 : Int32, v23 = ((jishr (h.1 (h.2.2 x0 31) x2.toNatClampNeg) x1) &&& 1) → ( ((¬ v23 = 0 → (L_X12_pressedAt_75 l g h x0 x2  Q)) ∧ (v23 = 0 → (∀ v26 : Int32, v26 = x2 + (1) → ( L_X12_pressedAt_48 l g h x0 x1 v26  Q)))))))))))) : L_X12_pressedAt_48 l g h x0 x1 x2  Q := by
  refine wp_iload_n 2 dX12_pressedAt_48 rfl rfl ?_
  obtain ⟨i19, hb⟩ := hb
  refine wp_aload_n 0 dX12_pressedAt_49 rfl rfl ?_
  refine wp_getI dX12_pressedAt_50 fl_X12_334 i19 ?_
  refine wp_icmp_ge (tgt := 75) dX12_pressedAt_53 (by decide) (fun c20 => ?_) (fun c20 => ?_)
  · have hb := hb.1 c20
    exact wp_sub [0, 2] rfl hb
  · have hb := hb.2 c20
    refine wp_aload_n 0 dX12_pressedAt_56 rfl rfl ?_
    obtain ⟨i21, hb⟩ := hb
    refine wp_getR dX12_pressedAt_57 fl_X12_80 i19 (i21.ne (by decide)) ?_
    refine wp_iload_n 2 dX12_pressedAt_60 rfl rfl ?_
    obtain ⟨b22, hb⟩ := hb
    refine wp_iaload dX12_pressedAt_61 i21 b22 ?_
    refine wp_iload_n 1 dX12_pressedAt_62 rfl rfl ?_
    refine wp_ishr dX12_pressedAt_63 ?_
    refine wp_iconst (v := 1) dX12_pressedAt_64 (by decide) ?_
    refine wp_iand dX12_pressedAt_65 ?_
    refine wp_topi (fun v23 e24 => ?_)
    have hb := hb v23 e24
    refine wp_if_ne (tgt := 75) dX12_pressedAt_66 (by decide) (fun c25 => ?_) (fun c25 => ?_)
    · have hb := hb.1 c25
      exact wp_sub [0, 2] rfl hb
    · have hb := hb.2 c25
      obtain ⟨v26, e27⟩ : ∃ y : Int32, y = x2 + (1) := ⟨_, rfl⟩
      have hb := hb v26 e27
      refine wp_iinc (v := v26) (lv2 := [(2, .int v26), (0, .ref x0), (1, .int x1)]) 2 dX12_pressedAt_69 rfl (by rw [e27]; rfl) (by decide) rfl ?_
      refine wp_goto (tgt := 48) dX12_pressedAt_72 (by decide) ?_
      exact wp_sub [1, 2, 0] rfl hb
set_option maxRecDepth 100000 in
set_option maxHeartbeats 4000000 in
theorem s_X12_pressedAt_75 {l : Launch} {g : AG} {h : AH} {x0 : Nat} {x2 : Int32}  {Q : Int32 → AH → Prop} (hb : (Is 194 x0 11) ∧ ( ((h.1 x0 25 ≤ x2 → (C_X12_done l g h x0 (-2) (fun r32 h31 => ( Q r32 h31)))) ∧ (¬ (h.1 x0 25 ≤ x2) → (C_X12_done l g h x0 x2 (fun r35 h34 => ( Q r35 h34))))))) : L_X12_pressedAt_75 l g h x0 x2  Q := by
  obtain ⟨i28, hb⟩ := hb
  refine wp_aload_n 0 dX12_pressedAt_75 rfl rfl ?_
  refine wp_iload_n 1 dX12_pressedAt_76 rfl rfl ?_
  refine wp_aload_n 0 dX12_pressedAt_77 rfl rfl ?_
  refine wp_getI dX12_pressedAt_78 fl_X12_334 i28 ?_
  refine wp_icmp_ge (tgt := 88) dX12_pressedAt_81 (by decide) (fun c29 => ?_) (fun c29 => ?_)
  · have hb := hb.1 c29
    refine wp_bipush (v := (-2)) dX12_pressedAt_88 (by decide) ?_
    refine wp_callV (as := [.int (-2)]) dX12_pressedAt_90 cb_X12_done lk_X12_337 im_X12_done se_X12_done rfl (Nat.le_of_ble_eq_true rfl) ⟨by decide, by decide⟩ ⟨Nat.le_refl _, Nat.le_refl _, Nat.le_refl _⟩ i28 rfl (by decide) hb (fun r0 h31 hb => ?_)
    obtain ⟨r32, rfl, hb⟩ := hb
    exact wp_iret rfl dX12_pressedAt_93 ⟨_, rfl, hb⟩
  · have hb := hb.2 c29
    refine wp_iload_n 1 dX12_pressedAt_84 rfl rfl ?_
    refine wp_goto (tgt := 90) dX12_pressedAt_85 (by decide) ?_
    refine wp_callV (as := [.int x2]) dX12_pressedAt_90 cb_X12_done lk_X12_337 im_X12_done se_X12_done rfl (Nat.le_of_ble_eq_true rfl) ⟨by decide, by decide⟩ ⟨Nat.le_refl _, Nat.le_refl _, Nat.le_refl _⟩ i28 rfl (by decide) hb (fun r0 h34 hb => ?_)
    obtain ⟨r35, rfl, hb⟩ := hb
    exact wp_iret rfl dX12_pressedAt_93 ⟨_, rfl, hb⟩
theorem c_X12_pressedAt {l : Launch} {g : AG} {h : AH} {x0 : Nat} {x1 : Int32}  {Q : Int32 → AH → Prop} (hb : L_X12_pressedAt_0 l g h x0 x1  Q) : C_X12_pressedAt l g h x0 x1  Q := ax_met rfl rfl (Nat.le_of_ble_eq_true rfl) hb
def C_X12_never (l : Launch) (g : AG) (h : AH) (x0 : Nat)  (Q : Int32 → AH → Prop) : Prop := Ct l g mX12_never 1 21 194 194 h [.ref x0] (ax_QI Q)
def L_X12_never_0 (l : Launch) (g : AG) (h : AH) (x0 : Nat)  (Q : Int32 → AH → Prop) : Prop := Wp l g mX12_never 1 21 194 194 194 0 [(0, .ref x0)] [] h (FM g 194 194 (ax_QI Q))
def L_X12_never_24 (l : Launch) (g : AG) (h : AH) (x0 : Nat) (x1 : Int32) (x2 : Int32)  (Q : Int32 → AH → Prop) : Prop := Wp l g mX12_never 1 21 194 194 194 24 [(0, .ref x0), (1, .int x1), (2, .int x2)] [] h (FM g 194 194 (ax_QI Q))
def L_X12_never_51 (l : Launch) (g : AG) (h : AH) (x0 : Nat) (x1 : Int32) (x2 : Int32) (x3 : Int32)  (Q : Int32 → AH → Prop) : Prop := Wp l g mX12_never 1 21 194 194 194 51 [(0, .ref x0), (1, .int x1), (2, .int x2), (3, .int x3)] [] h (FM g 194 194 (ax_QI Q))
set_option maxRecDepth 100000 in
set_option maxHeartbeats 4000000 in
theorem s_X12_never_0 {l : Launch} {g : AG} {h : AH} {x0 : Nat}  {Q : Int32 → AH → Prop} (hb : (Is 194 x0 11) ∧ ( ∀ h2 : AH, h2 = ax_setI h x0 0 0 → ( ((¬ h2.1 x0 24 = (-1) → (L_X12_never_24 l g h2 x0 0 0  Q)) ∧ (h2.1 x0 24 = (-1) → (C_X12_refused l g h2 x0 6 (fun r7 h6 => ( Q r7 h6)))))))) : L_X12_never_0 l g h x0  Q := by
  obtain ⟨i1, hb⟩ := hb
  refine wp_aload_n 0 dX12_never_0 rfl rfl ?_
  refine wp_iconst (v := 0) dX12_never_1 (by decide) ?_
  refine wp_putI dX12_never_2 fl_X12_1 (Or.inl rfl) i1 ?_
  refine wp_topH (fun h2 e3 => ?_)
  have hb := hb h2 e3
  refine wp_aload_n 0 dX12_never_5 rfl rfl ?_
  refine wp_getI dX12_never_6 fl_X12_62 i1 ?_
  refine wp_iconst (v := (-1)) dX12_never_9 (by decide) ?_
  refine wp_icmp_ne (tgt := 20) dX12_never_10 (by decide) (fun c4 => ?_) (fun c4 => ?_)
  · have hb := hb.1 c4
    refine wp_iconst (v := 0) dX12_never_20 (by decide) ?_
    refine wp_istore_n (lv2 := [(1, .int 0), (0, .ref x0)]) dX12_never_21 rfl (by decide) rfl ?_
    refine wp_iconst (v := 0) dX12_never_22 (by decide) ?_
    refine wp_istore_n (lv2 := [(2, .int 0), (1, .int 0), (0, .ref x0)]) dX12_never_23 rfl (by decide) rfl ?_
    exact wp_sub [2, 1, 0] rfl hb
  · have hb := hb.2 c4
    refine wp_aload_n 0 dX12_never_13 rfl rfl ?_
    refine wp_bipush (v := 6) dX12_never_14 (by decide) ?_
    refine wp_callV (as := [.int 6]) dX12_never_16 cb_X12_refused lk_X12_316 im_X12_refused se_X12_refused rfl (Nat.le_of_ble_eq_true rfl) ⟨by decide, by decide⟩ ⟨Nat.le_refl _, Nat.le_refl _, Nat.le_refl _⟩ i1 rfl (by decide) hb (fun r0 h6 hb => ?_)
    obtain ⟨r7, rfl, hb⟩ := hb
    exact wp_iret rfl dX12_never_19 ⟨_, rfl, hb⟩
set_option maxRecDepth 100000 in
set_option maxHeartbeats 4000000 in
theorem s_X12_never_24 {l : Launch} {g : AG} {h : AH} {x0 : Nat} {x1 : Int32} {x2 : Int32}  {Q : Int32 → AH → Prop} (hb : (Is 194 x0 11) ∧ ( ((h.1 x0 25 ≤ x2 → (L_X12_never_51 l g h x0 x1 0 0  Q)) ∧ (¬ (h.1 x0 25 ≤ x2) → ((Is 194 (h.2.2 x0 31) 20) ∧ ( (vp_in x2 (ax_s (h.2.2 x0 31)).2) ∧ ( ∀ v12 : Int32, v12 = (x1 ||| (h.1 (h.2.2 x0 31) x2.toNatClampNeg)) → ( ∀ v14 : Int32, v14 = x2 + (1) → ( L_X12_never_24 l g h x0 v12 v14  Q))))))))) : L_X12_never_24 l g h x0 x1 x2  Q := by
  refine wp_iload_n 2 dX12_never_24 rfl rfl ?_
  obtain ⟨i8, hb⟩ := hb
  refine wp_aload_n 0 dX12_never_25 rfl rfl ?_
  refine wp_getI dX12_never_26 fl_X12_334 i8 ?_
  refine wp_icmp_ge (tgt := 47) dX12_never_29 (by decide) (fun c9 => ?_) (fun c9 => ?_)
  · have hb := hb.1 c9
    refine wp_iconst (v := 0) dX12_never_47 (by decide) ?_
    refine wp_istore_n (lv2 := [(2, .int 0), (0, .ref x0), (1, .int x1)]) dX12_never_48 rfl (by decide) rfl ?_
    refine wp_iconst (v := 0) dX12_never_49 (by decide) ?_
    refine wp_istore_n (lv2 := [(3, .int 0), (2, .int 0), (0, .ref x0), (1, .int x1)]) dX12_never_50 rfl (by decide) rfl ?_
    exact wp_sub [2, 3, 1, 0] rfl hb
  · have hb := hb.2 c9
    refine wp_iload_n 1 dX12_never_32 rfl rfl ?_
    refine wp_aload_n 0 dX12_never_33 rfl rfl ?_
    obtain ⟨i10, hb⟩ := hb
    refine wp_getR dX12_never_34 fl_X12_80 i8 (i10.ne (by decide)) ?_
    refine wp_iload_n 2 dX12_never_37 rfl rfl ?_
    obtain ⟨b11, hb⟩ := hb
    refine wp_iaload dX12_never_38 i10 b11 ?_
    refine wp_ior dX12_never_39 ?_
    refine wp_topi (fun v12 e13 => ?_)
    have hb := hb v12 e13
    refine wp_istore_n (lv2 := [(1, .int v12), (0, .ref x0), (2, .int x2)]) dX12_never_40 rfl (by decide) rfl ?_
    obtain ⟨v14, e15⟩ : ∃ y : Int32, y = x2 + (1) := ⟨_, rfl⟩
    have hb := hb v14 e15
    refine wp_iinc (v := v14) (lv2 := [(2, .int v14), (1, .int v12), (0, .ref x0)]) 2 dX12_never_41 rfl (by rw [e15]; rfl) (by decide) rfl ?_
    refine wp_goto (tgt := 24) dX12_never_44 (by decide) ?_
    exact wp_sub [2, 1, 0] rfl hb
set_option maxRecDepth 100000 in
set_option maxHeartbeats 4000000 in
theorem s_X12_never_51 {l : Launch} {g : AG} {h : AH} {x0 : Nat} {x1 : Int32} {x2 : Int32} {x3 : Int32}  {Q : Int32 → AH → Prop} (hb : (Is 194 x0 11) ∧ ( (Is 194 (h.2.2 x0 4) 25) ∧ ( (vp_in (h.1 x0 24) (ax_s (h.2.2 x0 4)).2) ∧ ( (Is 194 (h.2.2 (h.2.2 x0 4) (h.1 x0 24).toNatClampNeg) 9) ∧ ( ((h.1 (h.2.2 (h.2.2 x0 4) (h.1 x0 24).toNatClampNeg) 1 ≤ x3 → (C_X12_done l g h x0 x2 (fun r23 h22 => ( Q r23 h22)))) ∧ (¬ (h.1 (h.2.2 (h.2.2 x0 4) (h.1 x0 24).toNatClampNeg) 1 ≤ x3) → (((¬ (jishr x1 x3) &&& 1 = 0 → (∀ v25 : Int32, v25 = (x2 + 0) → ( ∀ v27 : Int32, v27 = x3 + (1) → ( L_X12_never_51 l g h x0 x1 v25 v27  Q)))) ∧ ((jishr x1 x3) &&& 1 = 0 → (∀ v29 : Int32, v29 = (x2 + 1) → ( ∀ v31 : Int32, v31 = x3 + (1) → ( L_X12_never_51 l g h x0 x1 v29 v31  Q))))))))))))) : L_X12_never_51 l g h x0 x1 x2 x3  Q := by
  refine wp_iload_n 3 dX12_never_51 rfl rfl ?_
  obtain ⟨i16, hb⟩ := hb
  refine wp_aload_n 0 dX12_never_52 rfl rfl ?_
  obtain ⟨i17, hb⟩ := hb
  refine wp_getR dX12_never_53 fl_X12_21 i16 (i17.ne (by decide)) ?_
  refine wp_aload_n 0 dX12_never_56 rfl rfl ?_
  refine wp_getI dX12_never_57 fl_X12_62 i16 ?_
  obtain ⟨b18, hb⟩ := hb
  obtain ⟨i19, hb⟩ := hb
  refine wp_aaload25 dX12_never_60 i17 b18 (i19.ne (by decide)) ?_
  refine wp_getI dX12_never_61 fl_X12_208 i19 ?_
  refine wp_icmp_ge (tgt := 89) dX12_never_64 (by decide) (fun c20 => ?_) (fun c20 => ?_)
  · have hb := hb.1 c20
    refine wp_aload_n 0 dX12_never_89 rfl rfl ?_
    refine wp_iload_n 2 dX12_never_90 rfl rfl ?_
    refine wp_callV (as := [.int x2]) dX12_never_91 cb_X12_done lk_X12_337 im_X12_done se_X12_done rfl (Nat.le_of_ble_eq_true rfl) ⟨by decide, by decide⟩ ⟨Nat.le_refl _, Nat.le_refl _, Nat.le_refl _⟩ i16 rfl (by decide) hb (fun r0 h22 hb => ?_)
    obtain ⟨r23, rfl, hb⟩ := hb
    exact wp_iret rfl dX12_never_94 ⟨_, rfl, hb⟩
  · have hb := hb.2 c20
    refine wp_iload_n 2 dX12_never_67 rfl rfl ?_
    refine wp_iload_n 1 dX12_never_68 rfl rfl ?_
    refine wp_iload_n 3 dX12_never_69 rfl rfl ?_
    refine wp_ishr dX12_never_70 ?_
    refine wp_iconst (v := 1) dX12_never_71 (by decide) ?_
    refine wp_iand dX12_never_72 ?_
    refine wp_if_ne (tgt := 80) dX12_never_73 (by decide) (fun c24 => ?_) (fun c24 => ?_)
    · have hb := hb.1 c24
      refine wp_iconst (v := 0) dX12_never_80 (by decide) ?_
      refine wp_iadd dX12_never_81 ?_
      refine wp_topi (fun v25 e26 => ?_)
      have hb := hb v25 e26
      refine wp_istore_n (lv2 := [(2, .int v25), (0, .ref x0), (1, .int x1), (3, .int x3)]) dX12_never_82 rfl (by decide) rfl ?_
      obtain ⟨v27, e28⟩ : ∃ y : Int32, y = x3 + (1) := ⟨_, rfl⟩
      have hb := hb v27 e28
      refine wp_iinc (v := v27) (lv2 := [(3, .int v27), (2, .int v25), (0, .ref x0), (1, .int x1)]) 3 dX12_never_83 rfl (by rw [e28]; rfl) (by decide) rfl ?_
      refine wp_goto (tgt := 51) dX12_never_86 (by decide) ?_
      exact wp_sub [2, 3, 1, 0] rfl hb
    · have hb := hb.2 c24
      refine wp_iconst (v := 1) dX12_never_76 (by decide) ?_
      refine wp_goto (tgt := 81) dX12_never_77 (by decide) ?_
      refine wp_iadd dX12_never_81 ?_
      refine wp_topi (fun v29 e30 => ?_)
      have hb := hb v29 e30
      refine wp_istore_n (lv2 := [(2, .int v29), (0, .ref x0), (1, .int x1), (3, .int x3)]) dX12_never_82 rfl (by decide) rfl ?_
      obtain ⟨v31, e32⟩ : ∃ y : Int32, y = x3 + (1) := ⟨_, rfl⟩
      have hb := hb v31 e32
      refine wp_iinc (v := v31) (lv2 := [(3, .int v31), (2, .int v29), (0, .ref x0), (1, .int x1)]) 3 dX12_never_83 rfl (by rw [e32]; rfl) (by decide) rfl ?_
      refine wp_goto (tgt := 51) dX12_never_86 (by decide) ?_
      exact wp_sub [2, 3, 1, 0] rfl hb
theorem c_X12_never {l : Launch} {g : AG} {h : AH} {x0 : Nat}  {Q : Int32 → AH → Prop} (hb : L_X12_never_0 l g h x0  Q) : C_X12_never l g h x0  Q := ax_met rfl rfl (Nat.le_of_ble_eq_true rfl) hb
def C_X12_holdsAt (l : Launch) (g : AG) (h : AH) (x0 : Nat) (x1 : Int32) (x2 : Int32)  (Q : Int32 → AH → Prop) : Prop := Ct l g mX12_holdsAt 1 21 194 194 h [.ref x0, .int x1, .int x2] (ax_QI Q)
def L_X12_holdsAt_0 (l : Launch) (g : AG) (h : AH) (x0 : Nat) (x1 : Int32) (x2 : Int32)  (Q : Int32 → AH → Prop) : Prop := Wp l g mX12_holdsAt 1 21 194 194 194 0 [(0, .ref x0), (1, .int x1), (2, .int x2)] [] h (FM g 194 194 (ax_QI Q))
def L_X12_holdsAt_48 (l : Launch) (g : AG) (h : AH) (x0 : Nat) (x1 : Int32) (x2 : Int32) (x3 : Int32)  (Q : Int32 → AH → Prop) : Prop := Wp l g mX12_holdsAt 1 21 194 194 194 48 [(0, .ref x0), (1, .int x1), (2, .int x2), (3, .int x3)] [] h (FM g 194 194 (ax_QI Q))
def L_X12_holdsAt_83 (l : Launch) (g : AG) (h : AH) (x0 : Nat) (x3 : Int32)  (Q : Int32 → AH → Prop) : Prop := Wp l g mX12_holdsAt 1 21 194 194 194 83 [(0, .ref x0), (3, .int x3)] [] h (FM g 194 194 (ax_QI Q))
set_option maxRecDepth 100000 in
set_option maxHeartbeats 4000000 in
theorem s_X12_holdsAt_0 {l : Launch} {g : AG} {h : AH} {x0 : Nat} {x1 : Int32} {x2 : Int32}  {Q : Int32 → AH → Prop} (hb : (Is 194 x0 11) ∧ ( ∀ h2 : AH, h2 = ax_setI h x0 0 0 → ( ((¬ h2.1 x0 24 = (-1) → (((x1 < 0 → (C_X12_refused l g h2 x0 1 (fun r8 h7 => ( Q r8 h7)))) ∧ (¬ (x1 < 0) → ((Is 194 (h2.2.2 x0 4) 25) ∧ ( (vp_in (h2.1 x0 24) (ax_s (h2.2.2 x0 4)).2) ∧ ( (Is 194 (h2.2.2 (h2.2.2 x0 4) (h2.1 x0 24).toNatClampNeg) 9) ∧ ( ((x1 < h2.1 (h2.2.2 (h2.2.2 x0 4) (h2.1 x0 24).toNatClampNeg) 2 → (L_X12_holdsAt_48 l g h2 x0 x1 x2 0  Q)) ∧ (¬ (x1 < h2.1 (h2.2.2 (h2.2.2 x0 4) (h2.1 x0 24).toNatClampNeg) 2) → (C_X12_refused l g h2 x0 1 (fun r15 h14 => ( Q r15 h14))))))))))))) ∧ (h2.1 x0 24 = (-1) → (C_X12_refused l g h2 x0 6 (fun r18 h17 => ( Q r18 h17)))))))) : L_X12_holdsAt_0 l g h x0 x1 x2  Q := by
  obtain ⟨i1, hb⟩ := hb
  refine wp_aload_n 0 dX12_holdsAt_0 rfl rfl ?_
  refine wp_iconst (v := 0) dX12_holdsAt_1 (by decide) ?_
  refine wp_putI dX12_holdsAt_2 fl_X12_1 (Or.inl rfl) i1 ?_
  refine wp_topH (fun h2 e3 => ?_)
  have hb := hb h2 e3
  refine wp_aload_n 0 dX12_holdsAt_5 rfl rfl ?_
  refine wp_getI dX12_holdsAt_6 fl_X12_62 i1 ?_
  refine wp_iconst (v := (-1)) dX12_holdsAt_9 (by decide) ?_
  refine wp_icmp_ne (tgt := 20) dX12_holdsAt_10 (by decide) (fun c4 => ?_) (fun c4 => ?_)
  · have hb := hb.1 c4
    refine wp_iload_n 1 dX12_holdsAt_20 rfl rfl ?_
    refine wp_if_lt (tgt := 40) dX12_holdsAt_21 (by decide) (fun c5 => ?_) (fun c5 => ?_)
    · have hb := hb.1 c5
      refine wp_aload_n 0 dX12_holdsAt_40 rfl rfl ?_
      refine wp_iconst (v := 1) dX12_holdsAt_41 (by decide) ?_
      refine wp_callV (as := [.int 1]) dX12_holdsAt_42 cb_X12_refused lk_X12_316 im_X12_refused se_X12_refused rfl (Nat.le_of_ble_eq_true rfl) ⟨by decide, by decide⟩ ⟨Nat.le_refl _, Nat.le_refl _, Nat.le_refl _⟩ i1 rfl (by decide) hb (fun r0 h7 hb => ?_)
      obtain ⟨r8, rfl, hb⟩ := hb
      exact wp_iret rfl dX12_holdsAt_45 ⟨_, rfl, hb⟩
    · have hb := hb.2 c5
      refine wp_iload_n 1 dX12_holdsAt_24 rfl rfl ?_
      refine wp_aload_n 0 dX12_holdsAt_25 rfl rfl ?_
      obtain ⟨i9, hb⟩ := hb
      refine wp_getR dX12_holdsAt_26 fl_X12_21 i1 (i9.ne (by decide)) ?_
      refine wp_aload_n 0 dX12_holdsAt_29 rfl rfl ?_
      refine wp_getI dX12_holdsAt_30 fl_X12_62 i1 ?_
      obtain ⟨b10, hb⟩ := hb
      obtain ⟨i11, hb⟩ := hb
      refine wp_aaload25 dX12_holdsAt_33 i9 b10 (i11.ne (by decide)) ?_
      refine wp_getI dX12_holdsAt_34 fl_X12_198 i11 ?_
      refine wp_icmp_lt (tgt := 46) dX12_holdsAt_37 (by decide) (fun c12 => ?_) (fun c12 => ?_)
      · have hb := hb.1 c12
        refine wp_iconst (v := 0) dX12_holdsAt_46 (by decide) ?_
        refine wp_istore_n (lv2 := [(3, .int 0), (0, .ref x0), (1, .int x1), (2, .int x2)]) dX12_holdsAt_47 rfl (by decide) rfl ?_
        exact wp_sub [1, 2, 3, 0] rfl hb
      · have hb := hb.2 c12
        refine wp_aload_n 0 dX12_holdsAt_40 rfl rfl ?_
        refine wp_iconst (v := 1) dX12_holdsAt_41 (by decide) ?_
        refine wp_callV (as := [.int 1]) dX12_holdsAt_42 cb_X12_refused lk_X12_316 im_X12_refused se_X12_refused rfl (Nat.le_of_ble_eq_true rfl) ⟨by decide, by decide⟩ ⟨Nat.le_refl _, Nat.le_refl _, Nat.le_refl _⟩ i1 rfl (by decide) hb (fun r0 h14 hb => ?_)
        obtain ⟨r15, rfl, hb⟩ := hb
        exact wp_iret rfl dX12_holdsAt_45 ⟨_, rfl, hb⟩
  · have hb := hb.2 c4
    refine wp_aload_n 0 dX12_holdsAt_13 rfl rfl ?_
    refine wp_bipush (v := 6) dX12_holdsAt_14 (by decide) ?_
    refine wp_callV (as := [.int 6]) dX12_holdsAt_16 cb_X12_refused lk_X12_316 im_X12_refused se_X12_refused rfl (Nat.le_of_ble_eq_true rfl) ⟨by decide, by decide⟩ ⟨Nat.le_refl _, Nat.le_refl _, Nat.le_refl _⟩ i1 rfl (by decide) hb (fun r0 h17 hb => ?_)
    obtain ⟨r18, rfl, hb⟩ := hb
    exact wp_iret rfl dX12_holdsAt_19 ⟨_, rfl, hb⟩
set_option maxRecDepth 100000 in
set_option maxHeartbeats 4000000 in
theorem s_X12_holdsAt_48 {l : Launch} {g : AG} {h : AH} {x0 : Nat} {x1 : Int32} {x2 : Int32} {x3 : Int32}  {Q : Int32 → AH → Prop} (hb : (Is 194 x0 11) ∧ ( ((h.1 x0 25 ≤ x3 → (L_X12_holdsAt_83 l g h x0 x3  Q)) ∧ (¬ (h.1 x0 25 ≤ x3) → ((Is 194 (h.2.2 x0 27) 21) ∧ ( (vp_in x3 (ax_s (h.2.2 x0 27)).2) ∧ ( ∀ v23 : Int64, v23 = (jlshr (h.2.1 (h.2.2 x0 27) x3.toNatClampNeg) (4 * (5 - x1))) → ( (((v23 &&& 15).toInt32 = x2 → (L_X12_holdsAt_83 l g h x0 x3  Q)) ∧ (¬ ((v23 &&& 15).toInt32 = x2) → (∀ v26 : Int32, v26 = x3 + (1) → ( L_X12_holdsAt_48 l g h x0 x1 x2 v26  Q)))))))))))) : L_X12_holdsAt_48 l g h x0 x1 x2 x3  Q := by
  refine wp_iload_n 3 dX12_holdsAt_48 rfl rfl ?_
  obtain ⟨i19, hb⟩ := hb
  refine wp_aload_n 0 dX12_holdsAt_49 rfl rfl ?_
  refine wp_getI dX12_holdsAt_50 fl_X12_334 i19 ?_
  refine wp_icmp_ge (tgt := 83) dX12_holdsAt_53 (by decide) (fun c20 => ?_) (fun c20 => ?_)
  · have hb := hb.1 c20
    exact wp_sub [0, 3] rfl hb
  · have hb := hb.2 c20
    refine wp_aload_n 0 dX12_holdsAt_56 rfl rfl ?_
    obtain ⟨i21, hb⟩ := hb
    refine wp_getR dX12_holdsAt_57 fl_X12_68 i19 (i21.ne (by decide)) ?_
    refine wp_iload_n 3 dX12_holdsAt_60 rfl rfl ?_
    obtain ⟨b22, hb⟩ := hb
    refine wp_laload dX12_holdsAt_61 i21 b22 ?_
    refine wp_iconst (v := 4) dX12_holdsAt_62 (by decide) ?_
    refine wp_iconst (v := 5) dX12_holdsAt_63 (by decide) ?_
    refine wp_iload_n 1 dX12_holdsAt_64 rfl rfl ?_
    refine wp_isub dX12_holdsAt_65 ?_
    refine wp_imul dX12_holdsAt_66 ?_
    refine wp_lshr dX12_holdsAt_67 ?_
    refine wp_topl (fun v23 e24 => ?_)
    have hb := hb v23 e24
    refine wp_ldc2 (v := 15) dX12_holdsAt_68 lk_X12_352 ?_
    refine wp_land dX12_holdsAt_71 ?_
    refine wp_l2i dX12_holdsAt_72 ?_
    refine wp_iload_n 2 dX12_holdsAt_73 rfl rfl ?_
    refine wp_icmp_eq (tgt := 83) dX12_holdsAt_74 (by decide) (fun c25 => ?_) (fun c25 => ?_)
    · have hb := hb.1 c25
      exact wp_sub [0, 3] rfl hb
    · have hb := hb.2 c25
      obtain ⟨v26, e27⟩ : ∃ y : Int32, y = x3 + (1) := ⟨_, rfl⟩
      have hb := hb v26 e27
      refine wp_iinc (v := v26) (lv2 := [(3, .int v26), (0, .ref x0), (1, .int x1), (2, .int x2)]) 3 dX12_holdsAt_77 rfl (by rw [e27]; rfl) (by decide) rfl ?_
      refine wp_goto (tgt := 48) dX12_holdsAt_80 (by decide) ?_
      exact wp_sub [1, 2, 3, 0] rfl hb
set_option maxRecDepth 100000 in
set_option maxHeartbeats 4000000 in
theorem s_X12_holdsAt_83 {l : Launch} {g : AG} {h : AH} {x0 : Nat} {x3 : Int32}  {Q : Int32 → AH → Prop} (hb : (Is 194 x0 11) ∧ ( ((h.1 x0 25 ≤ x3 → (C_X12_done l g h x0 (-2) (fun r32 h31 => ( Q r32 h31)))) ∧ (¬ (h.1 x0 25 ≤ x3) → (C_X12_done l g h x0 x3 (fun r35 h34 => ( Q r35 h34))))))) : L_X12_holdsAt_83 l g h x0 x3  Q := by
  obtain ⟨i28, hb⟩ := hb
  refine wp_aload_n 0 dX12_holdsAt_83 rfl rfl ?_
  refine wp_iload_n 1 dX12_holdsAt_84 rfl rfl ?_
  refine wp_aload_n 0 dX12_holdsAt_85 rfl rfl ?_
  refine wp_getI dX12_holdsAt_86 fl_X12_334 i28 ?_
  refine wp_icmp_ge (tgt := 96) dX12_holdsAt_89 (by decide) (fun c29 => ?_) (fun c29 => ?_)
  · have hb := hb.1 c29
    refine wp_bipush (v := (-2)) dX12_holdsAt_96 (by decide) ?_
    refine wp_callV (as := [.int (-2)]) dX12_holdsAt_98 cb_X12_done lk_X12_337 im_X12_done se_X12_done rfl (Nat.le_of_ble_eq_true rfl) ⟨by decide, by decide⟩ ⟨Nat.le_refl _, Nat.le_refl _, Nat.le_refl _⟩ i28 rfl (by decide) hb (fun r0 h31 hb => ?_)
    obtain ⟨r32, rfl, hb⟩ := hb
    exact wp_iret rfl dX12_holdsAt_101 ⟨_, rfl, hb⟩
  · have hb := hb.2 c29
    refine wp_iload_n 1 dX12_holdsAt_92 rfl rfl ?_
    refine wp_goto (tgt := 98) dX12_holdsAt_93 (by decide) ?_
    refine wp_callV (as := [.int x3]) dX12_holdsAt_98 cb_X12_done lk_X12_337 im_X12_done se_X12_done rfl (Nat.le_of_ble_eq_true rfl) ⟨by decide, by decide⟩ ⟨Nat.le_refl _, Nat.le_refl _, Nat.le_refl _⟩ i28 rfl (by decide) hb (fun r0 h34 hb => ?_)
    obtain ⟨r35, rfl, hb⟩ := hb
    exact wp_iret rfl dX12_holdsAt_101 ⟨_, rfl, hb⟩
theorem c_X12_holdsAt {l : Launch} {g : AG} {h : AH} {x0 : Nat} {x1 : Int32} {x2 : Int32}  {Q : Int32 → AH → Prop} (hb : L_X12_holdsAt_0 l g h x0 x1 x2  Q) : C_X12_holdsAt l g h x0 x1 x2  Q := ax_met rfl rfl (Nat.le_of_ble_eq_true rfl) hb
def C_X12_stuck (l : Launch) (g : AG) (h : AH) (x0 : Nat) (x1 : Int32)  (Q : Int32 → AH → Prop) : Prop := Ct l g mX12_stuck 1 26 194 194 h [.ref x0, .int x1] (ax_QI Q)
def L_X12_stuck_0 (l : Launch) (g : AG) (h : AH) (x0 : Nat) (x1 : Int32)  (Q : Int32 → AH → Prop) : Prop := Wp l g mX12_stuck 1 26 194 194 194 0 [(0, .ref x0), (1, .int x1)] [] h (FM g 194 194 (ax_QI Q))
def L_X12_stuck_48 (l : Launch) (g : AG) (h : AH) (x0 : Nat) (x1 : Int32) (x2 : Int32)  (Q : Int32 → AH → Prop) : Prop := Wp l g mX12_stuck 1 26 194 194 194 48 [(0, .ref x0), (1, .int x1), (2, .int x2)] [] h (FM g 194 194 (ax_QI Q))
def L_X12_stuck_113 (l : Launch) (g : AG) (h : AH) (x0 : Nat) (x2 : Int32)  (Q : Int32 → AH → Prop) : Prop := Wp l g mX12_stuck 1 26 194 194 194 113 [(0, .ref x0), (2, .int x2)] [] h (FM g 194 194 (ax_QI Q))
def L_X12_stuck_213 (l : Launch) (g : AG) (h : AH) (x0 : Nat) (x3 : Int32)  (Q : Int32 → AH → Prop) : Prop := Wp l g mX12_stuck 1 26 194 194 194 213 [(0, .ref x0), (3, .int x3)] [] h (FM g 194 194 (ax_QI Q))
def L_X12_stuck_126 (l : Launch) (g : AG) (h : AH) (x0 : Nat) (x2 : Int32) (x3 : Int32)  (Q : Int32 → AH → Prop) : Prop := Wp l g mX12_stuck 1 26 194 194 194 126 [(0, .ref x0), (2, .int x2), (3, .int x3)] [] h (FM g 194 194 (ax_QI Q))
def L_X12_stuck_236 (l : Launch) (g : AG) (h : AH) (x0 : Nat) (x3 : Int32)  (Q : Int32 → AH → Prop) : Prop := Wp l g mX12_stuck 1 26 194 194 194 236 [(0, .ref x0), (3, .int x3)] [] h (FM g 194 194 (ax_QI Q))
def L_X12_stuck_133 (l : Launch) (g : AG) (h : AH) (x0 : Nat) (x2 : Int32) (x3 : Int32) (x4 : Int32)  (Q : Int32 → AH → Prop) : Prop := Wp l g mX12_stuck 1 26 194 194 194 133 [(0, .ref x0), (2, .int x2), (3, .int x3), (4, .int x4)] [] h (FM g 194 194 (ax_QI Q))
set_option maxRecDepth 100000 in
set_option maxHeartbeats 4000000 in
theorem s_X12_stuck_0 {l : Launch} {g : AG} {h : AH} {x0 : Nat} {x1 : Int32}  {Q : Int32 → AH → Prop} (hb : (Is 194 x0 11) ∧ ( ∀ h2 : AH, h2 = ax_setI h x0 0 0 → ( ((¬ h2.1 x0 24 = (-1) → (((x1 < 0 → (C_X12_refused l g h2 x0 1 (fun r8 h7 => ( Q r8 h7)))) ∧ (¬ (x1 < 0) → ((Is 194 (h2.2.2 x0 4) 25) ∧ ( (vp_in (h2.1 x0 24) (ax_s (h2.2.2 x0 4)).2) ∧ ( (Is 194 (h2.2.2 (h2.2.2 x0 4) (h2.1 x0 24).toNatClampNeg) 9) ∧ ( ((x1 < h2.1 (h2.2.2 (h2.2.2 x0 4) (h2.1 x0 24).toNatClampNeg) 0 → (L_X12_stuck_48 l g h2 x0 x1 0  Q)) ∧ (¬ (x1 < h2.1 (h2.2.2 (h2.2.2 x0 4) (h2.1 x0 24).toNatClampNeg) 0) → (C_X12_refused l g h2 x0 1 (fun r15 h14 => ( Q r15 h14))))))))))))) ∧ (h2.1 x0 24 = (-1) → (C_X12_refused l g h2 x0 6 (fun r18 h17 => ( Q r18 h17)))))))) : L_X12_stuck_0 l g h x0 x1  Q := by
  obtain ⟨i1, hb⟩ := hb
  refine wp_aload_n 0 dX12_stuck_0 rfl rfl ?_
  refine wp_iconst (v := 0) dX12_stuck_1 (by decide) ?_
  refine wp_putI dX12_stuck_2 fl_X12_1 (Or.inl rfl) i1 ?_
  refine wp_topH (fun h2 e3 => ?_)
  have hb := hb h2 e3
  refine wp_aload_n 0 dX12_stuck_5 rfl rfl ?_
  refine wp_getI dX12_stuck_6 fl_X12_62 i1 ?_
  refine wp_iconst (v := (-1)) dX12_stuck_9 (by decide) ?_
  refine wp_icmp_ne (tgt := 20) dX12_stuck_10 (by decide) (fun c4 => ?_) (fun c4 => ?_)
  · have hb := hb.1 c4
    refine wp_iload_n 1 dX12_stuck_20 rfl rfl ?_
    refine wp_if_lt (tgt := 40) dX12_stuck_21 (by decide) (fun c5 => ?_) (fun c5 => ?_)
    · have hb := hb.1 c5
      refine wp_aload_n 0 dX12_stuck_40 rfl rfl ?_
      refine wp_iconst (v := 1) dX12_stuck_41 (by decide) ?_
      refine wp_callV (as := [.int 1]) dX12_stuck_42 cb_X12_refused lk_X12_316 im_X12_refused se_X12_refused rfl (Nat.le_of_ble_eq_true rfl) ⟨by decide, by decide⟩ ⟨Nat.le_refl _, Nat.le_refl _, Nat.le_refl _⟩ i1 rfl (by decide) hb (fun r0 h7 hb => ?_)
      obtain ⟨r8, rfl, hb⟩ := hb
      exact wp_iret rfl dX12_stuck_45 ⟨_, rfl, hb⟩
    · have hb := hb.2 c5
      refine wp_iload_n 1 dX12_stuck_24 rfl rfl ?_
      refine wp_aload_n 0 dX12_stuck_25 rfl rfl ?_
      obtain ⟨i9, hb⟩ := hb
      refine wp_getR dX12_stuck_26 fl_X12_21 i1 (i9.ne (by decide)) ?_
      refine wp_aload_n 0 dX12_stuck_29 rfl rfl ?_
      refine wp_getI dX12_stuck_30 fl_X12_62 i1 ?_
      obtain ⟨b10, hb⟩ := hb
      obtain ⟨i11, hb⟩ := hb
      refine wp_aaload25 dX12_stuck_33 i9 b10 (i11.ne (by decide)) ?_
      refine wp_getI dX12_stuck_34 fl_X12_205 i11 ?_
      refine wp_icmp_lt (tgt := 46) dX12_stuck_37 (by decide) (fun c12 => ?_) (fun c12 => ?_)
      · have hb := hb.1 c12
        refine wp_iconst (v := 0) dX12_stuck_46 (by decide) ?_
        refine wp_istore_n (lv2 := [(2, .int 0), (0, .ref x0), (1, .int x1)]) dX12_stuck_47 rfl (by decide) rfl ?_
        exact wp_sub [1, 2, 0] rfl hb
      · have hb := hb.2 c12
        refine wp_aload_n 0 dX12_stuck_40 rfl rfl ?_
        refine wp_iconst (v := 1) dX12_stuck_41 (by decide) ?_
        refine wp_callV (as := [.int 1]) dX12_stuck_42 cb_X12_refused lk_X12_316 im_X12_refused se_X12_refused rfl (Nat.le_of_ble_eq_true rfl) ⟨by decide, by decide⟩ ⟨Nat.le_refl _, Nat.le_refl _, Nat.le_refl _⟩ i1 rfl (by decide) hb (fun r0 h14 hb => ?_)
        obtain ⟨r15, rfl, hb⟩ := hb
        exact wp_iret rfl dX12_stuck_45 ⟨_, rfl, hb⟩
  · have hb := hb.2 c4
    refine wp_aload_n 0 dX12_stuck_13 rfl rfl ?_
    refine wp_bipush (v := 6) dX12_stuck_14 (by decide) ?_
    refine wp_callV (as := [.int 6]) dX12_stuck_16 cb_X12_refused lk_X12_316 im_X12_refused se_X12_refused rfl (Nat.le_of_ble_eq_true rfl) ⟨by decide, by decide⟩ ⟨Nat.le_refl _, Nat.le_refl _, Nat.le_refl _⟩ i1 rfl (by decide) hb (fun r0 h17 hb => ?_)
    obtain ⟨r18, rfl, hb⟩ := hb
    exact wp_iret rfl dX12_stuck_19 ⟨_, rfl, hb⟩
set_option maxRecDepth 100000 in
set_option maxHeartbeats 4000000 in
theorem s_X12_stuck_48 {l : Launch} {g : AG} {h : AH} {x0 : Nat} {x1 : Int32} {x2 : Int32}  {Q : Int32 → AH → Prop} (hb : (Is 194 x0 11) ∧ ( ((h.1 x0 25 ≤ x2 → (L_X12_stuck_113 l g h x0 1  Q)) ∧ (¬ (h.1 x0 25 ≤ x2) → ((Is 194 (h.2.2 x0 26) 21) ∧ ( (vp_in x2 (ax_s (h.2.2 x0 26)).2) ∧ ( (Is 194 (h.2.2 x0 27) 21) ∧ ( (vp_in x2 (ax_s (h.2.2 x0 27)).2) ∧ ( C_X12_unpack l g h x0 (h.2.1 (h.2.2 x0 26) x2.toNatClampNeg) (h.2.1 (h.2.2 x0 27) x2.toNatClampNeg) (fun h26 => ( (Is 194 (h26.2.2 x0 38) 23) ∧ ( ((h26.1 x0 20 ≤ 0 → ((vp_in x2 (ax_s (h26.2.2 x0 38)).2) ∧ ( ∀ h30 : AH, h30 = ax_setI h26 (h26.2.2 x0 38) x2.toNatClampNeg (vp_nar .boolean 0) → ( ∀ v32 : Int32, v32 = x2 + (1) → ( L_X12_stuck_48 l g h30 x0 x1 v32  Q))))) ∧ (¬ (h26.1 x0 20 ≤ 0) → ((Is 194 (h26.2.2 x0 21) 20) ∧ ( (vp_in ((h26.1 x0 20) - 1) (ax_s (h26.2.2 x0 21)).2) ∧ ( ∀ v36 : Int32, v36 = (h26.1 (h26.2.2 x0 21) ((h26.1 x0 20) - 1).toNatClampNeg) → ( ((¬ v36 = x1 → ((vp_in x2 (ax_s (h26.2.2 x0 38)).2) ∧ ( ∀ h40 : AH, h40 = ax_setI h26 (h26.2.2 x0 38) x2.toNatClampNeg (vp_nar .boolean 0) → ( ∀ v42 : Int32, v42 = x2 + (1) → ( L_X12_stuck_48 l g h40 x0 x1 v42  Q))))) ∧ (v36 = x1 → ((vp_in x2 (ax_s (h26.2.2 x0 38)).2) ∧ ( ∀ h45 : AH, h45 = ax_setI h26 (h26.2.2 x0 38) x2.toNatClampNeg (vp_nar .boolean 1) → ( ∀ v47 : Int32, v47 = x2 + (1) → ( L_X12_stuck_48 l g h45 x0 x1 v47  Q)))))))))))))))))))))))) : L_X12_stuck_48 l g h x0 x1 x2  Q := by
  refine wp_iload_n 2 dX12_stuck_48 rfl rfl ?_
  obtain ⟨i19, hb⟩ := hb
  refine wp_aload_n 0 dX12_stuck_49 rfl rfl ?_
  refine wp_getI dX12_stuck_50 fl_X12_334 i19 ?_
  refine wp_icmp_ge (tgt := 111) dX12_stuck_53 (by decide) (fun c20 => ?_) (fun c20 => ?_)
  · have hb := hb.1 c20
    refine wp_iconst (v := 1) dX12_stuck_111 (by decide) ?_
    refine wp_istore_n (lv2 := [(2, .int 1), (0, .ref x0), (1, .int x1)]) dX12_stuck_112 rfl (by decide) rfl ?_
    exact wp_sub [1, 0] rfl hb
  · have hb := hb.2 c20
    refine wp_aload_n 0 dX12_stuck_56 rfl rfl ?_
    refine wp_aload_n 0 dX12_stuck_57 rfl rfl ?_
    obtain ⟨i21, hb⟩ := hb
    refine wp_getR dX12_stuck_58 fl_X12_65 i19 (i21.ne (by decide)) ?_
    refine wp_iload_n 2 dX12_stuck_61 rfl rfl ?_
    obtain ⟨b22, hb⟩ := hb
    refine wp_laload dX12_stuck_62 i21 b22 ?_
    refine wp_aload_n 0 dX12_stuck_63 rfl rfl ?_
    obtain ⟨i23, hb⟩ := hb
    refine wp_getR dX12_stuck_64 fl_X12_68 i19 (i23.ne (by decide)) ?_
    refine wp_iload_n 2 dX12_stuck_67 rfl rfl ?_
    obtain ⟨b24, hb⟩ := hb
    refine wp_laload dX12_stuck_68 i23 b24 ?_
    refine wp_callV (as := [.long (h.2.1 (h.2.2 x0 26) x2.toNatClampNeg), .long (h.2.1 (h.2.2 x0 27) x2.toNatClampNeg)]) dX12_stuck_69 cb_X12_unpack lk_X12_377 im_X12_unpack se_X12_unpack rfl (Nat.le_of_ble_eq_true rfl) ⟨by decide, by decide⟩ ⟨Nat.le_refl _, Nat.le_refl _, Nat.le_refl _⟩ i19 rfl (by decide) hb (fun r0 h26 hb => ?_)
    obtain ⟨rfl, hb⟩ := hb
    refine wp_aload_n 0 dX12_stuck_72 rfl rfl ?_
    obtain ⟨i27, hb⟩ := hb
    refine wp_getR dX12_stuck_73 fl_X12_98 i19 (i27.ne (by decide)) ?_
    refine wp_iload_n 2 dX12_stuck_76 rfl rfl ?_
    refine wp_aload_n 0 dX12_stuck_77 rfl rfl ?_
    refine wp_getI dX12_stuck_78 fl_X12_346 i19 ?_
    refine wp_if_le (tgt := 103) dX12_stuck_81 (by decide) (fun c28 => ?_) (fun c28 => ?_)
    · have hb := hb.1 c28
      refine wp_iconst (v := 0) dX12_stuck_103 (by decide) ?_
      obtain ⟨b29, hb⟩ := hb
      refine wp_zastore dX12_stuck_104 i27 b29 ?_
      refine wp_topH (fun h30 e31 => ?_)
      have hb := hb h30 e31
      obtain ⟨v32, e33⟩ : ∃ y : Int32, y = x2 + (1) := ⟨_, rfl⟩
      have hb := hb v32 e33
      refine wp_iinc (v := v32) (lv2 := [(2, .int v32), (0, .ref x0), (1, .int x1)]) 2 dX12_stuck_105 rfl (by rw [e33]; rfl) (by decide) rfl ?_
      refine wp_goto (tgt := 48) dX12_stuck_108 (by decide) ?_
      exact wp_sub [1, 2, 0] rfl hb
    · have hb := hb.2 c28
      refine wp_aload_n 0 dX12_stuck_84 rfl rfl ?_
      obtain ⟨i34, hb⟩ := hb
      refine wp_getR dX12_stuck_85 fl_X12_52 i19 (i34.ne (by decide)) ?_
      refine wp_aload_n 0 dX12_stuck_88 rfl rfl ?_
      refine wp_getI dX12_stuck_89 fl_X12_346 i19 ?_
      refine wp_iconst (v := 1) dX12_stuck_92 (by decide) ?_
      refine wp_isub dX12_stuck_93 ?_
      obtain ⟨b35, hb⟩ := hb
      refine wp_iaload dX12_stuck_94 i34 b35 ?_
      refine wp_topi (fun v36 e37 => ?_)
      have hb := hb v36 e37
      refine wp_iload_n 1 dX12_stuck_95 rfl rfl ?_
      refine wp_icmp_ne (tgt := 103) dX12_stuck_96 (by decide) (fun c38 => ?_) (fun c38 => ?_)
      · have hb := hb.1 c38
        refine wp_iconst (v := 0) dX12_stuck_103 (by decide) ?_
        obtain ⟨b39, hb⟩ := hb
        refine wp_zastore dX12_stuck_104 i27 b39 ?_
        refine wp_topH (fun h40 e41 => ?_)
        have hb := hb h40 e41
        obtain ⟨v42, e43⟩ : ∃ y : Int32, y = x2 + (1) := ⟨_, rfl⟩
        have hb := hb v42 e43
        refine wp_iinc (v := v42) (lv2 := [(2, .int v42), (0, .ref x0), (1, .int x1)]) 2 dX12_stuck_105 rfl (by rw [e43]; rfl) (by decide) rfl ?_
        refine wp_goto (tgt := 48) dX12_stuck_108 (by decide) ?_
        exact wp_sub [1, 2, 0] rfl hb
      · have hb := hb.2 c38
        refine wp_iconst (v := 1) dX12_stuck_99 (by decide) ?_
        refine wp_goto (tgt := 104) dX12_stuck_100 (by decide) ?_
        obtain ⟨b44, hb⟩ := hb
        refine wp_zastore dX12_stuck_104 i27 b44 ?_
        refine wp_topH (fun h45 e46 => ?_)
        have hb := hb h45 e46
        obtain ⟨v47, e48⟩ : ∃ y : Int32, y = x2 + (1) := ⟨_, rfl⟩
        have hb := hb v47 e48
        refine wp_iinc (v := v47) (lv2 := [(2, .int v47), (0, .ref x0), (1, .int x1)]) 2 dX12_stuck_105 rfl (by rw [e48]; rfl) (by decide) rfl ?_
        refine wp_goto (tgt := 48) dX12_stuck_108 (by decide) ?_
        exact wp_sub [1, 2, 0] rfl hb
set_option maxRecDepth 100000 in
set_option maxHeartbeats 4000000 in
theorem s_X12_stuck_113 {l : Launch} {g : AG} {h : AH} {x0 : Nat} {x2 : Int32}  {Q : Int32 → AH → Prop} (hb : ((x2 = 0 → (L_X12_stuck_213 l g h x0 0  Q)) ∧ (¬ (x2 = 0) → ((Is 194 x0 11) ∧ ( ∀ v51 : Int32, v51 = ((h.1 x0 25) - 1) → ( L_X12_stuck_126 l g h x0 0 v51  Q)))))) : L_X12_stuck_113 l g h x0 x2  Q := by
  refine wp_iload_n 1 dX12_stuck_113 rfl rfl ?_
  refine wp_if_eq (tgt := 211) dX12_stuck_114 (by decide) (fun c49 => ?_) (fun c49 => ?_)
  · have hb := hb.1 c49
    refine wp_iconst (v := 0) dX12_stuck_211 (by decide) ?_
    refine wp_istore_n (lv2 := [(3, .int 0), (0, .ref x0), (2, .int x2)]) dX12_stuck_212 rfl (by decide) rfl ?_
    exact wp_sub [1, 0] rfl hb
  · have hb := hb.2 c49
    refine wp_iconst (v := 0) dX12_stuck_117 (by decide) ?_
    refine wp_istore_n (lv2 := [(2, .int 0), (0, .ref x0)]) dX12_stuck_118 rfl (by decide) rfl ?_
    obtain ⟨i50, hb⟩ := hb
    refine wp_aload_n 1 dX12_stuck_119 rfl rfl ?_
    refine wp_getI dX12_stuck_120 fl_X12_334 i50 ?_
    refine wp_iconst (v := 1) dX12_stuck_123 (by decide) ?_
    refine wp_isub dX12_stuck_124 ?_
    refine wp_topi (fun v51 e52 => ?_)
    have hb := hb v51 e52
    refine wp_istore_n (lv2 := [(3, .int v51), (2, .int 0), (0, .ref x0)]) dX12_stuck_125 rfl (by decide) rfl ?_
    exact wp_sub [2, 1, 0] rfl hb
set_option maxRecDepth 100000 in
set_option maxHeartbeats 4000000 in
theorem s_X12_stuck_213 {l : Launch} {g : AG} {h : AH} {x0 : Nat} {x3 : Int32}  {Q : Int32 → AH → Prop} (hb : (Is 194 x0 11) ∧ ( ((h.1 x0 25 ≤ x3 → (L_X12_stuck_236 l g h x0 x3  Q)) ∧ (¬ (h.1 x0 25 ≤ x3) → ((Is 194 (h.2.2 x0 38) 23) ∧ ( (vp_in x3 (ax_s (h.2.2 x0 38)).2) ∧ ( ((h.1 (h.2.2 x0 38) x3.toNatClampNeg = 0 → (L_X12_stuck_236 l g h x0 x3  Q)) ∧ (¬ (h.1 (h.2.2 x0 38) x3.toNatClampNeg = 0) → (∀ v58 : Int32, v58 = x3 + (1) → ( L_X12_stuck_213 l g h x0 v58  Q))))))))))) : L_X12_stuck_213 l g h x0 x3  Q := by
  refine wp_iload_n 1 dX12_stuck_213 rfl rfl ?_
  obtain ⟨i53, hb⟩ := hb
  refine wp_aload_n 0 dX12_stuck_214 rfl rfl ?_
  refine wp_getI dX12_stuck_215 fl_X12_334 i53 ?_
  refine wp_icmp_ge (tgt := 236) dX12_stuck_218 (by decide) (fun c54 => ?_) (fun c54 => ?_)
  · have hb := hb.1 c54
    exact hb
  · have hb := hb.2 c54
    refine wp_aload_n 0 dX12_stuck_221 rfl rfl ?_
    obtain ⟨i55, hb⟩ := hb
    refine wp_getR dX12_stuck_222 fl_X12_98 i53 (i55.ne (by decide)) ?_
    refine wp_iload_n 1 dX12_stuck_225 rfl rfl ?_
    obtain ⟨b56, hb⟩ := hb
    refine wp_zaload dX12_stuck_226 i55 b56 ?_
    refine wp_if_eq (tgt := 236) dX12_stuck_227 (by decide) (fun c57 => ?_) (fun c57 => ?_)
    · have hb := hb.1 c57
      exact hb
    · have hb := hb.2 c57
      obtain ⟨v58, e59⟩ : ∃ y : Int32, y = x3 + (1) := ⟨_, rfl⟩
      have hb := hb v58 e59
      refine wp_iinc (v := v58) (lv2 := [(3, .int v58), (0, .ref x0)]) 1 dX12_stuck_230 rfl (by rw [e59]; rfl) (by decide) rfl ?_
      refine wp_goto (tgt := 213) dX12_stuck_233 (by decide) ?_
      exact wp_sub [1, 0] rfl hb
set_option maxRecDepth 100000 in
set_option maxHeartbeats 4000000 in
theorem s_X12_stuck_126 {l : Launch} {g : AG} {h : AH} {x0 : Nat} {x2 : Int32} {x3 : Int32}  {Q : Int32 → AH → Prop} (hb : ((x3 < 0 → (L_X12_stuck_113 l g h x0 x2  Q)) ∧ (¬ (x3 < 0) → (L_X12_stuck_133 l g h x0 x2 x3 0  Q)))) : L_X12_stuck_126 l g h x0 x2 x3  Q := by
  refine wp_iload_n 2 dX12_stuck_126 rfl rfl ?_
  refine wp_if_lt (tgt := 208) dX12_stuck_127 (by decide) (fun c60 => ?_) (fun c60 => ?_)
  · have hb := hb.1 c60
    refine wp_goto (tgt := 113) dX12_stuck_208 (by decide) ?_
    exact wp_sub [0, 1] rfl hb
  · have hb := hb.2 c60
    refine wp_iconst (v := 0) dX12_stuck_130 (by decide) ?_
    refine wp_istore (lv2 := [(4, .int 0), (0, .ref x0), (2, .int x2), (3, .int x3)]) dX12_stuck_131 (by decide) rfl ?_
    exact wp_sub [1, 2, 3, 0] rfl hb
set_option maxRecDepth 100000 in
set_option maxHeartbeats 4000000 in
theorem s_X12_stuck_236 {l : Launch} {g : AG} {h : AH} {x0 : Nat} {x3 : Int32}  {Q : Int32 → AH → Prop} (hb : (Is 194 x0 11) ∧ ( ((h.1 x0 25 ≤ x3 → (C_X12_done l g h x0 (-2) (fun r65 h64 => ( Q r65 h64)))) ∧ (¬ (h.1 x0 25 ≤ x3) → (C_X12_done l g h x0 x3 (fun r68 h67 => ( Q r68 h67))))))) : L_X12_stuck_236 l g h x0 x3  Q := by
  obtain ⟨i61, hb⟩ := hb
  refine wp_aload_n 0 dX12_stuck_236 rfl rfl ?_
  refine wp_iload_n 1 dX12_stuck_237 rfl rfl ?_
  refine wp_aload_n 0 dX12_stuck_238 rfl rfl ?_
  refine wp_getI dX12_stuck_239 fl_X12_334 i61 ?_
  refine wp_icmp_ge (tgt := 249) dX12_stuck_242 (by decide) (fun c62 => ?_) (fun c62 => ?_)
  · have hb := hb.1 c62
    refine wp_bipush (v := (-2)) dX12_stuck_249 (by decide) ?_
    refine wp_callV (as := [.int (-2)]) dX12_stuck_251 cb_X12_done lk_X12_337 im_X12_done se_X12_done rfl (Nat.le_of_ble_eq_true rfl) ⟨by decide, by decide⟩ ⟨Nat.le_refl _, Nat.le_refl _, Nat.le_refl _⟩ i61 rfl (by decide) hb (fun r0 h64 hb => ?_)
    obtain ⟨r65, rfl, hb⟩ := hb
    exact wp_iret rfl dX12_stuck_254 ⟨_, rfl, hb⟩
  · have hb := hb.2 c62
    refine wp_iload_n 1 dX12_stuck_245 rfl rfl ?_
    refine wp_goto (tgt := 251) dX12_stuck_246 (by decide) ?_
    refine wp_callV (as := [.int x3]) dX12_stuck_251 cb_X12_done lk_X12_337 im_X12_done se_X12_done rfl (Nat.le_of_ble_eq_true rfl) ⟨by decide, by decide⟩ ⟨Nat.le_refl _, Nat.le_refl _, Nat.le_refl _⟩ i61 rfl (by decide) hb (fun r0 h67 hb => ?_)
    obtain ⟨r68, rfl, hb⟩ := hb
    exact wp_iret rfl dX12_stuck_254 ⟨_, rfl, hb⟩
set_option maxRecDepth 100000 in
set_option maxHeartbeats 4000000 in
theorem s_X12_stuck_133 {l : Launch} {g : AG} {h : AH} {x0 : Nat} {x2 : Int32} {x3 : Int32} {x4 : Int32}  {Q : Int32 → AH → Prop} (hb : ((26 ≤ x4 → (∀ v70 : Int32, v70 = x3 + (-1) → ( L_X12_stuck_126 l g h x0 x2 v70  Q))) ∧ (¬ (26 ≤ x4) → ((Is 194 x0 11) ∧ ( (Is 194 (h.2.2 x0 38) 23) ∧ ( (vp_in x3 (ax_s (h.2.2 x0 38)).2) ∧ ( ((¬ h.1 (h.2.2 x0 38) x3.toNatClampNeg = 0 → (∀ v76 : Int32, v76 = x3 + (-1) → ( L_X12_stuck_126 l g h x0 x2 v76  Q))) ∧ (h.1 (h.2.2 x0 38) x3.toNatClampNeg = 0 → ((Is 194 (h.2.2 x0 35) 20) ∧ ( (vp_in ((27 * x3) + x4) (ax_s (h.2.2 x0 35)).2) ∧ ( ((h.1 (h.2.2 x0 35) ((27 * x3) + x4).toNatClampNeg < 0 → (∀ v81 : Int32, v81 = x4 + (1) → ( L_X12_stuck_133 l g h x0 x2 x3 v81  Q))) ∧ (¬ (h.1 (h.2.2 x0 35) ((27 * x3) + x4).toNatClampNeg < 0) → ((Is 194 (h.2.2 x0 38) 23) ∧ ( (Is 194 (h.2.2 x0 35) 20) ∧ ( (vp_in ((27 * x3) + x4) (ax_s (h.2.2 x0 35)).2) ∧ ( (vp_in (h.1 (h.2.2 x0 35) ((27 * x3) + x4).toNatClampNeg) (ax_s (h.2.2 x0 38)).2) ∧ ( ∀ v87 : Int32, v87 = (h.1 (h.2.2 x0 38) (h.1 (h.2.2 x0 35) ((27 * x3) + x4).toNatClampNeg).toNatClampNeg) → ( ((¬ v87 = 0 → ((Is 194 (h.2.2 x0 38) 23) ∧ ( (vp_in x3 (ax_s (h.2.2 x0 38)).2) ∧ ( ∀ h92 : AH, h92 = ax_setI h (h.2.2 x0 38) x3.toNatClampNeg (vp_nar .boolean 1) → ( ∀ v94 : Int32, v94 = x4 + (1) → ( L_X12_stuck_133 l g h92 x0 1 x3 v94  Q)))))) ∧ (v87 = 0 → (∀ v96 : Int32, v96 = x4 + (1) → ( L_X12_stuck_133 l g h x0 x2 x3 v96  Q)))))))))))))))))))))))) : L_X12_stuck_133 l g h x0 x2 x3 x4  Q := by
  refine wp_iload 3 dX12_stuck_133 rfl ?_
  refine wp_bipush (v := 26) dX12_stuck_135 (by decide) ?_
  refine wp_icmp_ge (tgt := 202) dX12_stuck_137 (by decide) (fun c69 => ?_) (fun c69 => ?_)
  · have hb := hb.1 c69
    obtain ⟨v70, e71⟩ : ∃ y : Int32, y = x3 + (-1) := ⟨_, rfl⟩
    have hb := hb v70 e71
    refine wp_iinc (v := v70) (lv2 := [(3, .int v70), (0, .ref x0), (2, .int x2), (4, .int x4)]) 2 dX12_stuck_202 rfl (by rw [e71]; rfl) (by decide) rfl ?_
    refine wp_goto (tgt := 126) dX12_stuck_205 (by decide) ?_
    exact wp_sub [1, 2, 0] rfl hb
  · have hb := hb.2 c69
    obtain ⟨i72, hb⟩ := hb
    refine wp_aload_n 0 dX12_stuck_140 rfl rfl ?_
    obtain ⟨i73, hb⟩ := hb
    refine wp_getR dX12_stuck_141 fl_X12_98 i72 (i73.ne (by decide)) ?_
    refine wp_iload_n 2 dX12_stuck_144 rfl rfl ?_
    obtain ⟨b74, hb⟩ := hb
    refine wp_zaload dX12_stuck_145 i73 b74 ?_
    refine wp_if_ne (tgt := 202) dX12_stuck_146 (by decide) (fun c75 => ?_) (fun c75 => ?_)
    · have hb := hb.1 c75
      obtain ⟨v76, e77⟩ : ∃ y : Int32, y = x3 + (-1) := ⟨_, rfl⟩
      have hb := hb v76 e77
      refine wp_iinc (v := v76) (lv2 := [(3, .int v76), (0, .ref x0), (2, .int x2), (4, .int x4)]) 2 dX12_stuck_202 rfl (by rw [e77]; rfl) (by decide) rfl ?_
      refine wp_goto (tgt := 126) dX12_stuck_205 (by decide) ?_
      exact wp_sub [1, 2, 0] rfl hb
    · have hb := hb.2 c75
      refine wp_aload_n 0 dX12_stuck_149 rfl rfl ?_
      obtain ⟨i78, hb⟩ := hb
      refine wp_getR dX12_stuck_150 fl_X12_92 i72 (i78.ne (by decide)) ?_
      refine wp_bipush (v := 27) dX12_stuck_153 (by decide) ?_
      refine wp_iload_n 2 dX12_stuck_155 rfl rfl ?_
      refine wp_imul dX12_stuck_156 ?_
      refine wp_iload 3 dX12_stuck_157 rfl ?_
      refine wp_iadd dX12_stuck_159 ?_
      obtain ⟨b79, hb⟩ := hb
      refine wp_iaload dX12_stuck_160 i78 b79 ?_
      refine wp_if_lt (tgt := 196) dX12_stuck_161 (by decide) (fun c80 => ?_) (fun c80 => ?_)
      · have hb := hb.1 c80
        obtain ⟨v81, e82⟩ : ∃ y : Int32, y = x4 + (1) := ⟨_, rfl⟩
        have hb := hb v81 e82
        refine wp_iinc (v := v81) (lv2 := [(4, .int v81), (0, .ref x0), (2, .int x2), (3, .int x3)]) 3 dX12_stuck_196 rfl (by rw [e82]; rfl) (by decide) rfl ?_
        refine wp_goto (tgt := 133) dX12_stuck_199 (by decide) ?_
        exact wp_sub [1, 2, 3, 0] rfl hb
      · have hb := hb.2 c80
        refine wp_aload_n 0 dX12_stuck_164 rfl rfl ?_
        obtain ⟨i83, hb⟩ := hb
        refine wp_getR dX12_stuck_165 fl_X12_98 i72 (i83.ne (by decide)) ?_
        refine wp_aload_n 0 dX12_stuck_168 rfl rfl ?_
        obtain ⟨i84, hb⟩ := hb
        refine wp_getR dX12_stuck_169 fl_X12_92 i72 (i84.ne (by decide)) ?_
        refine wp_bipush (v := 27) dX12_stuck_172 (by decide) ?_
        refine wp_iload_n 2 dX12_stuck_174 rfl rfl ?_
        refine wp_imul dX12_stuck_175 ?_
        refine wp_iload 3 dX12_stuck_176 rfl ?_
        refine wp_iadd dX12_stuck_178 ?_
        obtain ⟨b85, hb⟩ := hb
        refine wp_iaload dX12_stuck_179 i84 b85 ?_
        obtain ⟨b86, hb⟩ := hb
        refine wp_zaload dX12_stuck_180 i83 b86 ?_
        refine wp_topi (fun v87 e88 => ?_)
        have hb := hb v87 e88
        refine wp_if_ne (tgt := 187) dX12_stuck_181 (by decide) (fun c89 => ?_) (fun c89 => ?_)
        · have hb := hb.1 c89
          refine wp_aload_n 0 dX12_stuck_187 rfl rfl ?_
          obtain ⟨i90, hb⟩ := hb
          refine wp_getR dX12_stuck_188 fl_X12_98 i72 (i90.ne (by decide)) ?_
          refine wp_iload_n 2 dX12_stuck_191 rfl rfl ?_
          refine wp_iconst (v := 1) dX12_stuck_192 (by decide) ?_
          obtain ⟨b91, hb⟩ := hb
          refine wp_zastore dX12_stuck_193 i90 b91 ?_
          refine wp_topH (fun h92 e93 => ?_)
          have hb := hb h92 e93
          refine wp_iconst (v := 1) dX12_stuck_194 (by decide) ?_
          refine wp_istore_n (lv2 := [(2, .int 1), (0, .ref x0), (3, .int x3), (4, .int x4)]) dX12_stuck_195 rfl (by decide) rfl ?_
          obtain ⟨v94, e95⟩ : ∃ y : Int32, y = x4 + (1) := ⟨_, rfl⟩
          have hb := hb v94 e95
          refine wp_iinc (v := v94) (lv2 := [(4, .int v94), (2, .int 1), (0, .ref x0), (3, .int x3)]) 3 dX12_stuck_196 rfl (by rw [e95]; rfl) (by decide) rfl ?_
          refine wp_goto (tgt := 133) dX12_stuck_199 (by decide) ?_
          exact wp_sub [2, 1, 3, 0] rfl hb
        · have hb := hb.2 c89
          refine wp_goto (tgt := 196) dX12_stuck_184 (by decide) ?_
          obtain ⟨v96, e97⟩ : ∃ y : Int32, y = x4 + (1) := ⟨_, rfl⟩
          have hb := hb v96 e97
          refine wp_iinc (v := v96) (lv2 := [(4, .int v96), (0, .ref x0), (2, .int x2), (3, .int x3)]) 3 dX12_stuck_196 rfl (by rw [e97]; rfl) (by decide) rfl ?_
          refine wp_goto (tgt := 133) dX12_stuck_199 (by decide) ?_
          exact wp_sub [1, 2, 3, 0] rfl hb
theorem c_X12_stuck {l : Launch} {g : AG} {h : AH} {x0 : Nat} {x1 : Int32}  {Q : Int32 → AH → Prop} (hb : L_X12_stuck_0 l g h x0 x1  Q) : C_X12_stuck l g h x0 x1  Q := ax_met rfl rfl (Nat.le_of_ble_eq_true rfl) hb
def C_X12_least (l : Launch) (g : AG) (h : AH) (x0 : Nat)  (Q : Int32 → AH → Prop) : Prop := Ct l g mX12_least 1 21 194 194 h [.ref x0] (ax_QI Q)
def L_X12_least_0 (l : Launch) (g : AG) (h : AH) (x0 : Nat)  (Q : Int32 → AH → Prop) : Prop := Wp l g mX12_least 1 21 194 194 194 0 [(0, .ref x0)] [] h (FM g 194 194 (ax_QI Q))
set_option maxRecDepth 100000 in
set_option maxHeartbeats 4000000 in
theorem s_X12_least_0 {l : Launch} {g : AG} {h : AH} {x0 : Nat}  {Q : Int32 → AH → Prop} (hb : (Is 194 x0 11) ∧ ( ∀ h2 : AH, h2 = ax_setI h x0 0 0 → ( ((¬ h2.1 x0 24 = (-1) → (C_X12_done l g h2 x0 (h2.1 x0 36) (fun r7 h6 => ( Q r7 h6)))) ∧ (h2.1 x0 24 = (-1) → (C_X12_refused l g h2 x0 6 (fun r10 h9 => ( Q r10 h9)))))))) : L_X12_least_0 l g h x0  Q := by
  obtain ⟨i1, hb⟩ := hb
  refine wp_aload_n 0 dX12_least_0 rfl rfl ?_
  refine wp_iconst (v := 0) dX12_least_1 (by decide) ?_
  refine wp_putI dX12_least_2 fl_X12_1 (Or.inl rfl) i1 ?_
  refine wp_topH (fun h2 e3 => ?_)
  have hb := hb h2 e3
  refine wp_aload_n 0 dX12_least_5 rfl rfl ?_
  refine wp_getI dX12_least_6 fl_X12_62 i1 ?_
  refine wp_iconst (v := (-1)) dX12_least_9 (by decide) ?_
  refine wp_icmp_ne (tgt := 22) dX12_least_10 (by decide) (fun c4 => ?_) (fun c4 => ?_)
  · have hb := hb.1 c4
    refine wp_aload_n 0 dX12_least_22 rfl rfl ?_
    refine wp_aload_n 0 dX12_least_23 rfl rfl ?_
    refine wp_getI dX12_least_24 fl_X12_405 i1 ?_
    refine wp_callV (as := [.int (h2.1 x0 36)]) dX12_least_27 cb_X12_done lk_X12_337 im_X12_done se_X12_done rfl (Nat.le_of_ble_eq_true rfl) ⟨by decide, by decide⟩ ⟨Nat.le_refl _, Nat.le_refl _, Nat.le_refl _⟩ i1 rfl (by decide) hb (fun r0 h6 hb => ?_)
    obtain ⟨r7, rfl, hb⟩ := hb
    exact wp_iret rfl dX12_least_30 ⟨_, rfl, hb⟩
  · have hb := hb.2 c4
    refine wp_aload_n 0 dX12_least_13 rfl rfl ?_
    refine wp_bipush (v := 6) dX12_least_14 (by decide) ?_
    refine wp_callV (as := [.int 6]) dX12_least_16 cb_X12_refused lk_X12_316 im_X12_refused se_X12_refused rfl (Nat.le_of_ble_eq_true rfl) ⟨by decide, by decide⟩ ⟨Nat.le_refl _, Nat.le_refl _, Nat.le_refl _⟩ i1 rfl (by decide) hb (fun r0 h9 hb => ?_)
    obtain ⟨r10, rfl, hb⟩ := hb
    refine wp_goto (tgt := 30) dX12_least_19 (by decide) ?_
    exact wp_iret rfl dX12_least_30 ⟨_, rfl, hb⟩
theorem c_X12_least {l : Launch} {g : AG} {h : AH} {x0 : Nat}  {Q : Int32 → AH → Prop} (hb : L_X12_least_0 l g h x0  Q) : C_X12_least l g h x0  Q := ax_met rfl rfl (Nat.le_of_ble_eq_true rfl) hb
def C_X12_views (l : Launch) (g : AG) (h : AH) (x0 : Nat)  (Q : Int32 → AH → Prop) : Prop := Ct l g mX12_views 1 25 194 194 h [.ref x0] (ax_QI Q)
def L_X12_views_0 (l : Launch) (g : AG) (h : AH) (x0 : Nat)  (Q : Int32 → AH → Prop) : Prop := Wp l g mX12_views 1 25 194 194 194 0 [(0, .ref x0)] [] h (FM g 194 194 (ax_QI Q))
def L_X12_views_24 (l : Launch) (g : AG) (h : AH) (x0 : Nat) (x1 : Int32) (x2 : Int32)  (Q : Int32 → AH → Prop) : Prop := Wp l g mX12_views 1 25 194 194 194 24 [(0, .ref x0), (1, .int x1), (2, .int x2)] [] h (FM g 194 194 (ax_QI Q))
set_option maxRecDepth 100000 in
set_option maxHeartbeats 4000000 in
theorem s_X12_views_0 {l : Launch} {g : AG} {h : AH} {x0 : Nat}  {Q : Int32 → AH → Prop} (hb : (Is 194 x0 11) ∧ ( ∀ h2 : AH, h2 = ax_setI h x0 0 0 → ( ((¬ h2.1 x0 24 = (-1) → (L_X12_views_24 l g h2 x0 0 0  Q)) ∧ (h2.1 x0 24 = (-1) → (C_X12_refused l g h2 x0 6 (fun r7 h6 => ( Q r7 h6)))))))) : L_X12_views_0 l g h x0  Q := by
  obtain ⟨i1, hb⟩ := hb
  refine wp_aload_n 0 dX12_views_0 rfl rfl ?_
  refine wp_iconst (v := 0) dX12_views_1 (by decide) ?_
  refine wp_putI dX12_views_2 fl_X12_1 (Or.inl rfl) i1 ?_
  refine wp_topH (fun h2 e3 => ?_)
  have hb := hb h2 e3
  refine wp_aload_n 0 dX12_views_5 rfl rfl ?_
  refine wp_getI dX12_views_6 fl_X12_62 i1 ?_
  refine wp_iconst (v := (-1)) dX12_views_9 (by decide) ?_
  refine wp_icmp_ne (tgt := 20) dX12_views_10 (by decide) (fun c4 => ?_) (fun c4 => ?_)
  · have hb := hb.1 c4
    refine wp_iconst (v := 0) dX12_views_20 (by decide) ?_
    refine wp_istore_n (lv2 := [(1, .int 0), (0, .ref x0)]) dX12_views_21 rfl (by decide) rfl ?_
    refine wp_iconst (v := 0) dX12_views_22 (by decide) ?_
    refine wp_istore_n (lv2 := [(2, .int 0), (1, .int 0), (0, .ref x0)]) dX12_views_23 rfl (by decide) rfl ?_
    exact wp_sub [2, 1, 0] rfl hb
  · have hb := hb.2 c4
    refine wp_aload_n 0 dX12_views_13 rfl rfl ?_
    refine wp_bipush (v := 6) dX12_views_14 (by decide) ?_
    refine wp_callV (as := [.int 6]) dX12_views_16 cb_X12_refused lk_X12_316 im_X12_refused se_X12_refused rfl (Nat.le_of_ble_eq_true rfl) ⟨by decide, by decide⟩ ⟨Nat.le_refl _, Nat.le_refl _, Nat.le_refl _⟩ i1 rfl (by decide) hb (fun r0 h6 hb => ?_)
    obtain ⟨r7, rfl, hb⟩ := hb
    exact wp_iret rfl dX12_views_19 ⟨_, rfl, hb⟩
set_option maxRecDepth 100000 in
set_option maxHeartbeats 4000000 in
theorem s_X12_views_24 {l : Launch} {g : AG} {h : AH} {x0 : Nat} {x1 : Int32} {x2 : Int32}  {Q : Int32 → AH → Prop} (hb : (Is 194 x0 11) ∧ ( ((h.1 x0 25 ≤ x2 → (C_X12_done l g h x0 x1 (fun r12 h11 => ( Q r12 h11)))) ∧ (¬ (h.1 x0 25 ≤ x2) → ((Is 194 (h.2.2 x0 37) 21) ∧ ( (Is 194 (h.2.2 x0 37) 21) ∧ ( (vp_in x2 (ax_s (h.2.2 x0 37)).2) ∧ ( C_X12_find l g h (h.2.2 x0 37) 0 x2 (h.2.1 (h.2.2 x0 37) x2.toNatClampNeg) (fun r18 h17 => ( ((¬ r18 = (-1) → (∀ v20 : Int32, v20 = (x1 + 0) → ( ∀ v22 : Int32, v22 = x2 + (1) → ( L_X12_views_24 l g h17 x0 v20 v22  Q)))) ∧ (r18 = (-1) → (∀ v24 : Int32, v24 = (x1 + 1) → ( ∀ v26 : Int32, v26 = x2 + (1) → ( L_X12_views_24 l g h17 x0 v24 v26  Q))))))))))))))) : L_X12_views_24 l g h x0 x1 x2  Q := by
  refine wp_iload_n 2 dX12_views_24 rfl rfl ?_
  obtain ⟨i8, hb⟩ := hb
  refine wp_aload_n 0 dX12_views_25 rfl rfl ?_
  refine wp_getI dX12_views_26 fl_X12_334 i8 ?_
  refine wp_icmp_ge (tgt := 65) dX12_views_29 (by decide) (fun c9 => ?_) (fun c9 => ?_)
  · have hb := hb.1 c9
    refine wp_aload_n 0 dX12_views_65 rfl rfl ?_
    refine wp_iload_n 1 dX12_views_66 rfl rfl ?_
    refine wp_callV (as := [.int x1]) dX12_views_67 cb_X12_done lk_X12_337 im_X12_done se_X12_done rfl (Nat.le_of_ble_eq_true rfl) ⟨by decide, by decide⟩ ⟨Nat.le_refl _, Nat.le_refl _, Nat.le_refl _⟩ i8 rfl (by decide) hb (fun r0 h11 hb => ?_)
    obtain ⟨r12, rfl, hb⟩ := hb
    exact wp_iret rfl dX12_views_70 ⟨_, rfl, hb⟩
  · have hb := hb.2 c9
    refine wp_iload_n 1 dX12_views_32 rfl rfl ?_
    refine wp_aload_n 0 dX12_views_33 rfl rfl ?_
    obtain ⟨i13, hb⟩ := hb
    refine wp_getR dX12_views_34 fl_X12_95 i8 (i13.ne (by decide)) ?_
    refine wp_iconst (v := 0) dX12_views_37 (by decide) ?_
    refine wp_iload_n 2 dX12_views_38 rfl rfl ?_
    refine wp_aload_n 0 dX12_views_39 rfl rfl ?_
    obtain ⟨i14, hb⟩ := hb
    refine wp_getR dX12_views_40 fl_X12_95 i8 (i14.ne (by decide)) ?_
    refine wp_iload_n 2 dX12_views_43 rfl rfl ?_
    obtain ⟨b15, hb⟩ := hb
    refine wp_laload dX12_views_44 i14 b15 ?_
    refine wp_callS (as := [.ref (h.2.2 x0 37), .int 0, .int x2, .long (h.2.1 (h.2.2 x0 37) x2.toNatClampNeg)]) dX12_views_45 cb_X12_find lk_X12_201 st_X12_find rfl (Nat.le_of_ble_eq_true rfl) ⟨by decide, by decide⟩ ⟨Nat.le_refl _, Nat.le_refl _, Nat.le_refl _⟩ hb (fun r0 h17 hb => ?_)
    obtain ⟨r18, rfl, hb⟩ := hb
    refine wp_iconst (v := (-1)) dX12_views_48 (by decide) ?_
    refine wp_icmp_ne (tgt := 56) dX12_views_49 (by decide) (fun c19 => ?_) (fun c19 => ?_)
    · have hb := hb.1 c19
      refine wp_iconst (v := 0) dX12_views_56 (by decide) ?_
      refine wp_iadd dX12_views_57 ?_
      refine wp_topi (fun v20 e21 => ?_)
      have hb := hb v20 e21
      refine wp_istore_n (lv2 := [(1, .int v20), (0, .ref x0), (2, .int x2)]) dX12_views_58 rfl (by decide) rfl ?_
      obtain ⟨v22, e23⟩ : ∃ y : Int32, y = x2 + (1) := ⟨_, rfl⟩
      have hb := hb v22 e23
      refine wp_iinc (v := v22) (lv2 := [(2, .int v22), (1, .int v20), (0, .ref x0)]) 2 dX12_views_59 rfl (by rw [e23]; rfl) (by decide) rfl ?_
      refine wp_goto (tgt := 24) dX12_views_62 (by decide) ?_
      exact wp_sub [2, 1, 0] rfl hb
    · have hb := hb.2 c19
      refine wp_iconst (v := 1) dX12_views_52 (by decide) ?_
      refine wp_goto (tgt := 57) dX12_views_53 (by decide) ?_
      refine wp_iadd dX12_views_57 ?_
      refine wp_topi (fun v24 e25 => ?_)
      have hb := hb v24 e25
      refine wp_istore_n (lv2 := [(1, .int v24), (0, .ref x0), (2, .int x2)]) dX12_views_58 rfl (by decide) rfl ?_
      obtain ⟨v26, e27⟩ : ∃ y : Int32, y = x2 + (1) := ⟨_, rfl⟩
      have hb := hb v26 e27
      refine wp_iinc (v := v26) (lv2 := [(2, .int v26), (1, .int v24), (0, .ref x0)]) 2 dX12_views_59 rfl (by rw [e27]; rfl) (by decide) rfl ?_
      refine wp_goto (tgt := 24) dX12_views_62 (by decide) ?_
      exact wp_sub [2, 1, 0] rfl hb
theorem c_X12_views {l : Launch} {g : AG} {h : AH} {x0 : Nat}  {Q : Int32 → AH → Prop} (hb : L_X12_views_0 l g h x0  Q) : C_X12_views l g h x0  Q := ax_met rfl rfl (Nat.le_of_ble_eq_true rfl) hb
def C_X12_farthest (l : Launch) (g : AG) (h : AH) (x0 : Nat)  (Q : Int32 → AH → Prop) : Prop := Ct l g mX12_farthest 1 21 194 194 h [.ref x0] (ax_QI Q)
def L_X12_farthest_0 (l : Launch) (g : AG) (h : AH) (x0 : Nat)  (Q : Int32 → AH → Prop) : Prop := Wp l g mX12_farthest 1 21 194 194 194 0 [(0, .ref x0)] [] h (FM g 194 194 (ax_QI Q))
def L_X12_farthest_24 (l : Launch) (g : AG) (h : AH) (x0 : Nat) (x1 : Int32) (x2 : Int32)  (Q : Int32 → AH → Prop) : Prop := Wp l g mX12_farthest 1 21 194 194 194 24 [(0, .ref x0), (1, .int x1), (2, .int x2)] [] h (FM g 194 194 (ax_QI Q))
set_option maxRecDepth 100000 in
set_option maxHeartbeats 4000000 in
theorem s_X12_farthest_0 {l : Launch} {g : AG} {h : AH} {x0 : Nat}  {Q : Int32 → AH → Prop} (hb : (Is 194 x0 11) ∧ ( ∀ h2 : AH, h2 = ax_setI h x0 0 0 → ( ((¬ h2.1 x0 24 = (-1) → (L_X12_farthest_24 l g h2 x0 0 0  Q)) ∧ (h2.1 x0 24 = (-1) → (C_X12_refused l g h2 x0 6 (fun r7 h6 => ( Q r7 h6)))))))) : L_X12_farthest_0 l g h x0  Q := by
  obtain ⟨i1, hb⟩ := hb
  refine wp_aload_n 0 dX12_farthest_0 rfl rfl ?_
  refine wp_iconst (v := 0) dX12_farthest_1 (by decide) ?_
  refine wp_putI dX12_farthest_2 fl_X12_1 (Or.inl rfl) i1 ?_
  refine wp_topH (fun h2 e3 => ?_)
  have hb := hb h2 e3
  refine wp_aload_n 0 dX12_farthest_5 rfl rfl ?_
  refine wp_getI dX12_farthest_6 fl_X12_62 i1 ?_
  refine wp_iconst (v := (-1)) dX12_farthest_9 (by decide) ?_
  refine wp_icmp_ne (tgt := 20) dX12_farthest_10 (by decide) (fun c4 => ?_) (fun c4 => ?_)
  · have hb := hb.1 c4
    refine wp_iconst (v := 0) dX12_farthest_20 (by decide) ?_
    refine wp_istore_n (lv2 := [(1, .int 0), (0, .ref x0)]) dX12_farthest_21 rfl (by decide) rfl ?_
    refine wp_iconst (v := 0) dX12_farthest_22 (by decide) ?_
    refine wp_istore_n (lv2 := [(2, .int 0), (1, .int 0), (0, .ref x0)]) dX12_farthest_23 rfl (by decide) rfl ?_
    exact wp_sub [2, 1, 0] rfl hb
  · have hb := hb.2 c4
    refine wp_aload_n 0 dX12_farthest_13 rfl rfl ?_
    refine wp_bipush (v := 6) dX12_farthest_14 (by decide) ?_
    refine wp_callV (as := [.int 6]) dX12_farthest_16 cb_X12_refused lk_X12_316 im_X12_refused se_X12_refused rfl (Nat.le_of_ble_eq_true rfl) ⟨by decide, by decide⟩ ⟨Nat.le_refl _, Nat.le_refl _, Nat.le_refl _⟩ i1 rfl (by decide) hb (fun r0 h6 hb => ?_)
    obtain ⟨r7, rfl, hb⟩ := hb
    exact wp_iret rfl dX12_farthest_19 ⟨_, rfl, hb⟩
set_option maxRecDepth 100000 in
set_option maxHeartbeats 4000000 in
theorem s_X12_farthest_24 {l : Launch} {g : AG} {h : AH} {x0 : Nat} {x1 : Int32} {x2 : Int32}  {Q : Int32 → AH → Prop} (hb : (Is 194 x0 11) ∧ ( ((h.1 x0 25 ≤ x2 → (C_X12_done l g h x0 x1 (fun r12 h11 => ( Q r12 h11)))) ∧ (¬ (h.1 x0 25 ≤ x2) → ((Is 194 (h.2.2 x0 30) 20) ∧ ( (vp_in x2 (ax_s (h.2.2 x0 30)).2) ∧ ( ∀ v15 : Int32, v15 = (if x1 < h.1 (h.2.2 x0 30) x2.toNatClampNeg then h.1 (h.2.2 x0 30) x2.toNatClampNeg else x1) → ( ∀ v17 : Int32, v17 = x2 + (1) → ( L_X12_farthest_24 l g h x0 v15 v17  Q))))))))) : L_X12_farthest_24 l g h x0 x1 x2  Q := by
  refine wp_iload_n 2 dX12_farthest_24 rfl rfl ?_
  obtain ⟨i8, hb⟩ := hb
  refine wp_aload_n 0 dX12_farthest_25 rfl rfl ?_
  refine wp_getI dX12_farthest_26 fl_X12_334 i8 ?_
  refine wp_icmp_ge (tgt := 49) dX12_farthest_29 (by decide) (fun c9 => ?_) (fun c9 => ?_)
  · have hb := hb.1 c9
    refine wp_aload_n 0 dX12_farthest_49 rfl rfl ?_
    refine wp_iload_n 1 dX12_farthest_50 rfl rfl ?_
    refine wp_callV (as := [.int x1]) dX12_farthest_51 cb_X12_done lk_X12_337 im_X12_done se_X12_done rfl (Nat.le_of_ble_eq_true rfl) ⟨by decide, by decide⟩ ⟨Nat.le_refl _, Nat.le_refl _, Nat.le_refl _⟩ i8 rfl (by decide) hb (fun r0 h11 hb => ?_)
    obtain ⟨r12, rfl, hb⟩ := hb
    exact wp_iret rfl dX12_farthest_54 ⟨_, rfl, hb⟩
  · have hb := hb.2 c9
    refine wp_iload_n 1 dX12_farthest_32 rfl rfl ?_
    refine wp_aload_n 0 dX12_farthest_33 rfl rfl ?_
    obtain ⟨i13, hb⟩ := hb
    refine wp_getR dX12_farthest_34 fl_X12_77 i8 (i13.ne (by decide)) ?_
    refine wp_iload_n 2 dX12_farthest_37 rfl rfl ?_
    obtain ⟨b14, hb⟩ := hb
    refine wp_iaload dX12_farthest_38 i13 b14 ?_
    refine wp_mmax dX12_farthest_39 lk_X12_361 (Nat.le_of_ble_eq_true rfl) (by decide) (by decide) (by decide) ?_
    refine wp_topi (fun v15 e16 => ?_)
    have hb := hb v15 e16
    refine wp_istore_n (lv2 := [(1, .int v15), (0, .ref x0), (2, .int x2)]) dX12_farthest_42 rfl (by decide) rfl ?_
    obtain ⟨v17, e18⟩ : ∃ y : Int32, y = x2 + (1) := ⟨_, rfl⟩
    have hb := hb v17 e18
    refine wp_iinc (v := v17) (lv2 := [(2, .int v17), (1, .int v15), (0, .ref x0)]) 2 dX12_farthest_43 rfl (by rw [e18]; rfl) (by decide) rfl ?_
    refine wp_goto (tgt := 24) dX12_farthest_46 (by decide) ?_
    exact wp_sub [2, 1, 0] rfl hb
theorem c_X12_farthest {l : Launch} {g : AG} {h : AH} {x0 : Nat}  {Q : Int32 → AH → Prop} (hb : L_X12_farthest_0 l g h x0  Q) : C_X12_farthest l g h x0  Q := ax_met rfl rfl (Nat.le_of_ble_eq_true rfl) hb
