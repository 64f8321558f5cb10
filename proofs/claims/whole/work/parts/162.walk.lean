def C_X12_pressedAt (l : Launch) (g : AG) (h : AH) (x0 : Nat) (x1 : Int32)  (Q : Int32 → AH → Prop) : Prop := Ct l g mX12_pressedAt 1 21 194 194 h [.ref x0, .int x1] (ax_QI Q)
def L_X12_pressedAt_0 (l : Launch) (g : AG) (h : AH) (x0 : Nat) (x1 : Int32)  (Q : Int32 → AH → Prop) : Prop := Wp l g mX12_pressedAt 1 21 194 194 194 0 [(0, .ref x0), (1, .int x1)] [] h (FM g 194 194 (ax_QI Q))
def L_X12_pressedAt_48 (l : Launch) (g : AG) (h : AH) (x0 : Nat) (x1 : Int32) (x2 : Int32)  (Q : Int32 → AH → Prop) : Prop := Wp l g mX12_pressedAt 1 21 194 194 194 48 [(0, .ref x0), (1, .int x1), (2, .int x2)] [] h (FM g 194 194 (ax_QI Q))
def L_X12_pressedAt_75 (l : Launch) (g : AG) (h : AH) (x0 : Nat) (x2 : Int32)  (Q : Int32 → AH → Prop) : Prop := Wp l g mX12_pressedAt 1 21 194 194 194 75 [(0, .ref x0), (2, .int x2)] [] h (FM g 194 194 (ax_QI Q))
set_option maxRecDepth 100000 in
set_option maxHeartbeats 4000000 in
theorem s_X12_pressedAt_0 {l : Launch} {g : AG} {h : AH} {x0 : Nat} {x1 : Int32}  {Q : Int32 → AH → Prop} (hb : (Is 194 x0 11) ∧ ( ∀ h2 : AH, h2 = ax_setI h x0 0 0 → ( ((¬ h2.1 x0 24 = (-1) → (((x1 < 0 → (C_X12_refused l g h2 x0 1 (fun r8 h7 => ( Q r8 h7)))) ∧ (¬ (x1 < 0) → ((Is 194 (h2.2.2 x0 4) 25) ∧ ( (vp_in (h2.1 x0 24) (ax_s (h2.2.2 x0 4)).2) ∧ ( (Is 194 (h2.2.2 (h2.2.2 x0 4) (h2.1 x0 24).toNatClampNeg) 9) ∧ ( ((x1 < h2.1 (h2.2.2 (h2.2.2 x0 4) (h2.1 x0 24).toNatClampNeg) 1 → (L_X12_pressedAt_48 l g h2 x0 x1 0  Q)) ∧ (¬ (x1 < h2.1 (h2.2.2 (h2.2.2 x0 4) (h2.1 x0 24).toNatClampNeg) 1) → (C_X12_refused l g h2 x0 1 (fun r15 h14 => ( Q r15 h14))))))))))))) ∧ (h2.1 x0 24 = (-1) → (C_X12_refused l g h2 x0 6 (fun r18 h17 => ( Q r18 h17)))))))) : L_X12_pressedAt_0 l g h x0 x1  Q := by
  obtain ⟨i1, hb⟩ := hb
  refine wp_aload_n 0 dX12_pressedAt_0 rfl rfl ?_
  refine wp_iconst (v := 0) dX12_pressedAt_1 (by decide) ?_
  refine wp_putI dX12_pressedAt_2 fl_X12_1 (Or.inl rfl) i1 ?_
  refine wp_topH (fun h2 e3 => ?_)
  have hb := hb h2 e3
  refine wp_aload_n 0 dX12_pressedAt_5 rfl rfl ?_
  refine wp_getI dX12_pressedAt_6 fl_X12_62 i1 ?_
  refine wp_iconst (v := (-1)) dX12_pressedAt_9 (by decide) ?_
  refine wp_icmp_ne (tgt := 20) dX12_pressedAt_10 (by decide) (fun c4 => ?_) (fun c4 => ?_)
  · have hb := hb.1 c4
    refine wp_iload_n 1 dX12_pressedAt_20 rfl rfl ?_
    refine wp_if_lt (tgt := 40) dX12_pressedAt_21 (by decide) (fun c5 => ?_) (fun c5 => ?_)
    · have hb := hb.1 c5
      refine wp_aload_n 0 dX12_pressedAt_40 rfl rfl ?_
      refine wp_iconst (v := 1) dX12_pressedAt_41 (by decide) ?_
      refine wp_callV (as := [.int 1]) dX12_pressedAt_42 cb_X12_refused lk_X12_316 im_X12_refused se_X12_refused rfl (Nat.le_of_ble_eq_true rfl) ⟨by decide, by decide⟩ ⟨Nat.le_refl _, Nat.le_refl _, Nat.le_refl _⟩ i1 rfl (by decide) hb (fun r0 h7 hb => ?_)
      obtain ⟨r8, rfl, hb⟩ := hb
      exact wp_iret rfl dX12_pressedAt_45 ⟨_, rfl, hb⟩
    · have hb := hb.2 c5
      refine wp_iload_n 1 dX12_pressedAt_24 rfl rfl ?_
      refine wp_aload_n 0 dX12_pressedAt_25 rfl rfl ?_
      obtain ⟨i9, hb⟩ := hb
      refine wp_getR dX12_pressedAt_26 fl_X12_21 i1 (i9.ne (by decide)) ?_
      refine wp_aload_n 0 dX12_pressedAt_29 rfl rfl ?_
      refine wp_getI dX12_pressedAt_30 fl_X12_62 i1 ?_
      obtain ⟨b10, hb⟩ := hb
      obtain ⟨i11, hb⟩ := hb
      refine wp_aaload25 dX12_pressedAt_33 i9 b10 (i11.ne (by decide)) ?_
      refine wp_getI dX12_pressedAt_34 fl_X12_208 i11 ?_
      refine wp_icmp_lt (tgt := 46) dX12_pressedAt_37 (by decide) (fun c12 => ?_) (fun c12 => ?_)
      · have hb := hb.1 c12
        refine wp_iconst (v := 0) dX12_pressedAt_46 (by decide) ?_
        refine wp_istore_n (lv2 := [(2, .int 0), (0, .ref x0), (1, .int x1)]) dX12_pressedAt_47 rfl (by decide) rfl ?_
        exact wp_sub [1, 2, 0] rfl hb
      · have hb := hb.2 c12
        refine wp_aload_n 0 dX12_pressedAt_40 rfl rfl ?_
        refine wp_iconst (v := 1) dX12_pressedAt_41 (by decide) ?_
        refine wp_callV (as := [.int 1]) dX12_pressedAt_42 cb_X12_refused lk_X12_316 im_X12_refused se_X12_refused rfl (Nat.le_of_ble_eq_true rfl) ⟨by decide, by decide⟩ ⟨Nat.le_refl _, Nat.le_refl _, Nat.le_refl _⟩ i1 rfl (by decide) hb (fun r0 h14 hb => ?_)
        obtain ⟨r15, rfl, hb⟩ := hb
        exact wp_iret rfl dX12_pressedAt_45 ⟨_, rfl, hb⟩
  · have hb := hb.2 c4
    refine wp_aload_n 0 dX12_pressedAt_13 rfl rfl ?_
    refine wp_bipush (v := 6) dX12_pressedAt_14 (by decide) ?_
    refine wp_callV (as := [.int 6]) dX12_pressedAt_16 cb_X12_refused lk_X12_316 im_X12_refused se_X12_refused rfl (Nat.le_of_ble_eq_true rfl) ⟨by decide, by decide⟩ ⟨Nat.le_refl _, Nat.le_refl _, Nat.le_refl _⟩ i1 rfl (by decide) hb (fun r0 h17 hb => ?_)
    obtain ⟨r18, rfl, hb⟩ := hb
    exact wp_iret rfl dX12_pressedAt_19 ⟨_, rfl, hb⟩
set_option maxRecDepth 100000 in
set_option maxHeartbeats 4000000 in
theorem s_X12_pressedAt_48 {l : Launch} {g : AG} {h : AH} {x0 : Nat} {x1 : Int32} {x2 : Int32}  {Q : Int32 → AH → Prop} (hb : (Is 194 x0 11) ∧ ( ((h.1 x0 25 ≤ x2 → (L_X12_pressedAt_75 l g h x0 x2  Q)) ∧ (¬ (h.1 x0 25 ≤ x2) → ((Is 194 (h.2.2 x0 31) 20) ∧ ( (vp_in x2 (ax_s (h.2.2 x0 31)).2) ∧ ( ∀ v23 : Int32, v23 = ((jishr (h.1 (h.2.2 x0 31) x2.toNatClampNeg) x1) &&& 1) → ( ((¬ v23 = 0 → (L_X12_pressedAt_75 l g h x0 x2  Q)) ∧ (v23 = 0 → (∀ v26 : Int32, v26 = x2 + (1) → ( L_X12_pressedAt_48 l g h x0 x1 v26  Q)))))))))))) : L_X12_pressedAt_48 l g h x0 x1 x2  Q := by
  refine wp_iload_n 2 dX12_pressedAt_48 rfl rfl ?_
  obtain ⟨i19, hb⟩ := hb
  refine wp_aload_n 0 dX12_pressedAt_49 rfl rfl ?_
  refine wp_getI dX12_pressedAt_50 fl_X12_334 i19 ?_
  refine wp_icmp_ge (tgt := 75) dX12_pressedAt_53 (by decide) (fun c20 => ?_) (fun c20 => ?_)
  · have hb := hb.1 c20
    exact wp_sub [0, 2] rfl hb
  · have hb := hb.2 c20
    refine wp_aload_n 0 dX12_pressedAt_56 rfl rfl ?_
    obtain ⟨i21, hb⟩ := hb
    refine wp_getR dX12_pressedAt_57 fl_X12_80 i19 (i21.ne (by decide)) ?_
    refine wp_iload_n 2 dX12_pressedAt_60 rfl rfl ?_
    obtain ⟨b22, hb⟩ := hb
    refine wp_iaload dX12_pressedAt_61 i21 b22 ?_
    refine wp_iload_n 1 dX12_pressedAt_62 rfl rfl ?_
    refine wp_ishr dX12_pressedAt_63 ?_
    refine wp_iconst (v := 1) dX12_pressedAt_64 (by decide) ?_
    refine wp_iand dX12_pressedAt_65 ?_
    refine wp_topi (fun v23 e24 => ?_)
    have hb := hb v23 e24
    refine wp_if_ne (tgt := 75) dX12_pressedAt_66 (by decide) (fun c25 => ?_) (fun c25 => ?_)
    · have hb := hb.1 c25
      exact wp_sub [0, 2] rfl hb
    · have hb := hb.2 c25
      obtain ⟨v26, e27⟩ : ∃ y : Int32, y = x2 + (1) := ⟨_, rfl⟩
      have hb := hb v26 e27
      refine wp_iinc (v := v26) (lv2 := [(2, .int v26), (0, .ref x0), (1, .int x1)]) 2 dX12_pressedAt_69 rfl (by rw [e27]; rfl) (by decide) rfl ?_
      refine wp_goto (tgt := 48) dX12_pressedAt_72 (by decide) ?_
      exact wp_sub [1, 2, 0] rfl hb
set_option maxRecDepth 100000 in
set_option maxHeartbeats 4000000 in
theorem s_X12_pressedAt_75 {l : Launch} {g : AG} {h : AH} {x0 : Nat} {x2 : Int32}  {Q : Int32 → AH → Prop} (hb : (Is 194 x0 11) ∧ ( ((h.1 x0 25 ≤ x2 → (C_X12_done l g h x0 (-2) (fun r32 h31 => ( Q r32 h31)))) ∧ (¬ (h.1 x0 25 ≤ x2) → (C_X12_done l g h x0 x2 (fun r35 h34 => ( Q r35 h34))))))) : L_X12_pressedAt_75 l g h x0 x2  Q := by
  obtain ⟨i28, hb⟩ := hb
  refine wp_aload_n 0 dX12_pressedAt_75 rfl rfl ?_
  refine wp_iload_n 1 dX12_pressedAt_76 rfl rfl ?_
  refine wp_aload_n 0 dX12_pressedAt_77 rfl rfl ?_
  refine wp_getI dX12_pressedAt_78 fl_X12_334 i28 ?_
  refine wp_icmp_ge (tgt := 88) dX12_pressedAt_81 (by decide) (fun c29 => ?_) (fun c29 => ?_)
  · have hb := hb.1 c29
    refine wp_bipush (v := (-2)) dX12_pressedAt_88 (by decide) ?_
    refine wp_callV (as := [.int (-2)]) dX12_pressedAt_90 cb_X12_done lk_X12_337 im_X12_done se_X12_done rfl (Nat.le_of_ble_eq_true rfl) ⟨by decide, by decide⟩ ⟨Nat.le_refl _, Nat.le_refl _, Nat.le_refl _⟩ i28 rfl (by decide) hb (fun r0 h31 hb => ?_)
    obtain ⟨r32, rfl, hb⟩ := hb
    exact wp_iret rfl dX12_pressedAt_93 ⟨_, rfl, hb⟩
  · have hb := hb.2 c29
    refine wp_iload_n 1 dX12_pressedAt_84 rfl rfl ?_
    refine wp_goto (tgt := 90) dX12_pressedAt_85 (by decide) ?_
    refine wp_callV (as := [.int x2]) dX12_pressedAt_90 cb_X12_done lk_X12_337 im_X12_done se_X12_done rfl (Nat.le_of_ble_eq_true rfl) ⟨by decide, by decide⟩ ⟨Nat.le_refl _, Nat.le_refl _, Nat.le_refl _⟩ i28 rfl (by decide) hb (fun r0 h34 hb => ?_)
    obtain ⟨r35, rfl, hb⟩ := hb
    exact wp_iret rfl dX12_pressedAt_93 ⟨_, rfl, hb⟩
theorem c_X12_pressedAt {l : Launch} {g : AG} {h : AH} {x0 : Nat} {x1 : Int32}  {Q : Int32 → AH → Prop} (hb : L_X12_pressedAt_0 l g h x0 x1  Q) : C_X12_pressedAt l g h x0 x1  Q := ax_met rfl (Nat.le_of_ble_eq_true rfl) hb
def C_X12_never (l : Launch) (g : AG) (h : AH) (x0 : Nat)  (Q : Int32 → AH → Prop) : Prop := Ct l g mX12_never 1 21 194 194 h [.ref x0] (ax_QI Q)
def L_X12_never_0 (l : Launch) (g : AG) (h : AH) (x0 : Nat)  (Q : Int32 → AH → Prop) : Prop := Wp l g mX12_never 1 21 194 194 194 0 [(0, .ref x0)] [] h (FM g 194 194 (ax_QI Q))
def L_X12_never_24 (l : Launch) (g : AG) (h : AH) (x0 : Nat) (x1 : Int32) (x2 : Int32)  (Q : Int32 → AH → Prop) : Prop := Wp l g mX12_never 1 21 194 194 194 24 [(0, .ref x0), (1, .int x1), (2, .int x2)] [] h (FM g 194 194 (ax_QI Q))
def L_X12_never_51 (l : Launch) (g : AG) (h : AH) (x0 : Nat) (x1 : Int32) (x2 : Int32) (x3 : Int32)  (Q : Int32 → AH → Prop) : Prop := Wp l g mX12_never 1 21 194 194 194 51 [(0, .ref x0), (1, .int x1), (2, .int x2), (3, .int x3)] [] h (FM g 194 194 (ax_QI Q))
set_option maxRecDepth 100000 in
set_option maxHeartbeats 4000000 in
theorem s_X12_never_0 {l : Launch} {g : AG} {h : AH} {x0 : Nat}  {Q : Int32 → AH → Prop} (hb : (Is 194 x0 11) ∧ ( ∀ h2 : AH, h2 = ax_setI h x0 0 0 → ( ((¬ h2.1 x0 24 = (-1) → (L_X12_never_24 l g h2 x0 0 0  Q)) ∧ (h2.1 x0 24 = (-1) → (C_X12_refused l g h2 x0 6 (fun r7 h6 => ( Q r7 h6)))))))) : L_X12_never_0 l g h x0  Q := by
  obtain ⟨i1, hb⟩ := hb
  refine wp_aload_n 0 dX12_never_0 rfl rfl ?_
  refine wp_iconst (v := 0) dX12_never_1 (by decide) ?_
  refine wp_putI dX12_never_2 fl_X12_1 (Or.inl rfl) i1 ?_
  refine wp_topH (fun h2 e3 => ?_)
  have hb := hb h2 e3
  refine wp_aload_n 0 dX12_never_5 rfl rfl ?_
  refine wp_getI dX12_never_6 fl_X12_62 i1 ?_
  refine wp_iconst (v := (-1)) dX12_never_9 (by decide) ?_
  refine wp_icmp_ne (tgt := 20) dX12_never_10 (by decide) (fun c4 => ?_) (fun c4 => ?_)
  · have hb := hb.1 c4
    refine wp_iconst (v := 0) dX12_never_20 (by decide) ?_
    refine wp_istore_n (lv2 := [(1, .int 0), (0, .ref x0)]) dX12_never_21 rfl (by decide) rfl ?_
    refine wp_iconst (v := 0) dX12_never_22 (by decide) ?_
    refine wp_istore_n (lv2 := [(2, .int 0), (1, .int 0), (0, .ref x0)]) dX12_never_23 rfl (by decide) rfl ?_
    exact wp_sub [2, 1, 0] rfl hb
  · have hb := hb.2 c4
    refine wp_aload_n 0 dX12_never_13 rfl rfl ?_
    refine wp_bipush (v := 6) dX12_never_14 (by decide) ?_
    refine wp_callV (as := [.int 6]) dX12_never_16 cb_X12_refused lk_X12_316 im_X12_refused se_X12_refused rfl (Nat.le_of_ble_eq_true rfl) ⟨by decide, by decide⟩ ⟨Nat.le_refl _, Nat.le_refl _, Nat.le_refl _⟩ i1 rfl (by decide) hb (fun r0 h6 hb => ?_)
    obtain ⟨r7, rfl, hb⟩ := hb
    exact wp_iret rfl dX12_never_19 ⟨_, rfl, hb⟩
set_option maxRecDepth 100000 in
set_option maxHeartbeats 4000000 in
theorem s_X12_never_24 {l : Launch} {g : AG} {h : AH} {x0 : Nat} {x1 : Int32} {x2 : Int32}  {Q : Int32 → AH → Prop} (hb : (Is 194 x0 11) ∧ ( ((h.1 x0 25 ≤ x2 → (L_X12_never_51 l g h x0 x1 0 0  Q)) ∧ (¬ (h.1 x0 25 ≤ x2) → ((Is 194 (h.2.2 x0 31) 20) ∧ ( (vp_in x2 (ax_s (h.2.2 x0 31)).2) ∧ ( ∀ v12 : Int32, v12 = (x1 ||| (h.1 (h.2.2 x0 31) x2.toNatClampNeg)) → ( ∀ v14 : Int32, v14 = x2 + (1) → ( L_X12_never_24 l g h x0 v12 v14  Q))))))))) : L_X12_never_24 l g h x0 x1 x2  Q := by
  refine wp_iload_n 2 dX12_never_24 rfl rfl ?_
  obtain ⟨i8, hb⟩ := hb
  refine wp_aload_n 0 dX12_never_25 rfl rfl ?_
  refine wp_getI dX12_never_26 fl_X12_334 i8 ?_
  refine wp_icmp_ge (tgt := 47) dX12_never_29 (by decide) (fun c9 => ?_) (fun c9 => ?_)
  · have hb := hb.1 c9
    refine wp_iconst (v := 0) dX12_never_47 (by decide) ?_
    refine wp_istore_n (lv2 := [(2, .int 0), (0, .ref x0), (1, .int x1)]) dX12_never_48 rfl (by decide) rfl ?_
    refine wp_iconst (v := 0) dX12_never_49 (by decide) ?_
    refine wp_istore_n (lv2 := [(3, .int 0), (2, .int 0), (0, .ref x0), (1, .int x1)]) dX12_never_50 rfl (by decide) rfl ?_
    exact wp_sub [2, 3, 1, 0] rfl hb
  · have hb := hb.2 c9
    refine wp_iload_n 1 dX12_never_32 rfl rfl ?_
    refine wp_aload_n 0 dX12_never_33 rfl rfl ?_
    obtain ⟨i10, hb⟩ := hb
    refine wp_getR dX12_never_34 fl_X12_80 i8 (i10.ne (by decide)) ?_
    refine wp_iload_n 2 dX12_never_37 rfl rfl ?_
    obtain ⟨b11, hb⟩ := hb
    refine wp_iaload dX12_never_38 i10 b11 ?_
    refine wp_ior dX12_never_39 ?_
    refine wp_topi (fun v12 e13 => ?_)
    have hb := hb v12 e13
    refine wp_istore_n (lv2 := [(1, .int v12), (0, .ref x0), (2, .int x2)]) dX12_never_40 rfl (by decide) rfl ?_
    obtain ⟨v14, e15⟩ : ∃ y : Int32, y = x2 + (1) := ⟨_, rfl⟩
    have hb := hb v14 e15
    refine wp_iinc (v := v14) (lv2 := [(2, .int v14), (1, .int v12), (0, .ref x0)]) 2 dX12_never_41 rfl (by rw [e15]; rfl) (by decide) rfl ?_
    refine wp_goto (tgt := 24) dX12_never_44 (by decide) ?_
    exact wp_sub [2, 1, 0] rfl hb
set_option maxRecDepth 100000 in
set_option maxHeartbeats 4000000 in
theorem s_X12_never_51 {l : Launch} {g : AG} {h : AH} {x0 : Nat} {x1 : Int32} {x2 : Int32} {x3 : Int32}  {Q : Int32 → AH → Prop} (hb : (Is 194 x0 11) ∧ ( (Is 194 (h.2.2 x0 4) 25) ∧ ( (vp_in (h.1 x0 24) (ax_s (h.2.2 x0 4)).2) ∧ ( (Is 194 (h.2.2 (h.2.2 x0 4) (h.1 x0 24).toNatClampNeg) 9) ∧ ( ((h.1 (h.2.2 (h.2.2 x0 4) (h.1 x0 24).toNatClampNeg) 1 ≤ x3 → (C_X12_done l g h x0 x2 (fun r23 h22 => ( Q r23 h22)))) ∧ (¬ (h.1 (h.2.2 (h.2.2 x0 4) (h.1 x0 24).toNatClampNeg) 1 ≤ x3) → (((¬ (jishr x1 x3) &&& 1 = 0 → (∀ v25 : Int32, v25 = (x2 + 0) → ( ∀ v27 : Int32, v27 = x3 + (1) → ( L_X12_never_51 l g h x0 x1 v25 v27  Q)))) ∧ ((jishr x1 x3) &&& 1 = 0 → (∀ v29 : Int32, v29 = (x2 + 1) → ( ∀ v31 : Int32, v31 = x3 + (1) → ( L_X12_never_51 l g h x0 x1 v29 v31  Q))))))))))))) : L_X12_never_51 l g h x0 x1 x2 x3  Q := by
  refine wp_iload_n 3 dX12_never_51 rfl rfl ?_
  obtain ⟨i16, hb⟩ := hb
  refine wp_aload_n 0 dX12_never_52 rfl rfl ?_
  obtain ⟨i17, hb⟩ := hb
  refine wp_getR dX12_never_53 fl_X12_21 i16 (i17.ne (by decide)) ?_
  refine wp_aload_n 0 dX12_never_56 rfl rfl ?_
  refine wp_getI dX12_never_57 fl_X12_62 i16 ?_
  obtain ⟨b18, hb⟩ := hb
  obtain ⟨i19, hb⟩ := hb
  refine wp_aaload25 dX12_never_60 i17 b18 (i19.ne (by decide)) ?_
  refine wp_getI dX12_never_61 fl_X12_208 i19 ?_
  refine wp_icmp_ge (tgt := 89) dX12_never_64 (by decide) (fun c20 => ?_) (fun c20 => ?_)
  · have hb := hb.1 c20
    refine wp_aload_n 0 dX12_never_89 rfl rfl ?_
    refine wp_iload_n 2 dX12_never_90 rfl rfl ?_
    refine wp_callV (as := [.int x2]) dX12_never_91 cb_X12_done lk_X12_337 im_X12_done se_X12_done rfl (Nat.le_of_ble_eq_true rfl) ⟨by decide, by decide⟩ ⟨Nat.le_refl _, Nat.le_refl _, Nat.le_refl _⟩ i16 rfl (by decide) hb (fun r0 h22 hb => ?_)
    obtain ⟨r23, rfl, hb⟩ := hb
    exact wp_iret rfl dX12_never_94 ⟨_, rfl, hb⟩
  · have hb := hb.2 c20
    refine wp_iload_n 2 dX12_never_67 rfl rfl ?_
    refine wp_iload_n 1 dX12_never_68 rfl rfl ?_
    refine wp_iload_n 3 dX12_never_69 rfl rfl ?_
    refine wp_ishr dX12_never_70 ?_
    refine wp_iconst (v := 1) dX12_never_71 (by decide) ?_
    refine wp_iand dX12_never_72 ?_
    refine wp_if_ne (tgt := 80) dX12_never_73 (by decide) (fun c24 => ?_) (fun c24 => ?_)
    · have hb := hb.1 c24
      refine wp_iconst (v := 0) dX12_never_80 (by decide) ?_
      refine wp_iadd dX12_never_81 ?_
      refine wp_topi (fun v25 e26 => ?_)
      have hb := hb v25 e26
      refine wp_istore_n (lv2 := [(2, .int v25), (0, .ref x0), (1, .int x1), (3, .int x3)]) dX12_never_82 rfl (by decide) rfl ?_
      obtain ⟨v27, e28⟩ : ∃ y : Int32, y = x3 + (1) := ⟨_, rfl⟩
      have hb := hb v27 e28
      refine wp_iinc (v := v27) (lv2 := [(3, .int v27), (2, .int v25), (0, .ref x0), (1, .int x1)]) 3 dX12_never_83 rfl (by rw [e28]; rfl) (by decide) rfl ?_
      refine wp_goto (tgt := 51) dX12_never_86 (by decide) ?_
      exact wp_sub [2, 3, 1, 0] rfl hb
    · have hb := hb.2 c24
      refine wp_iconst (v := 1) dX12_never_76 (by decide) ?_
      refine wp_goto (tgt := 81) dX12_never_77 (by decide) ?_
      refine wp_iadd dX12_never_81 ?_
      refine wp_topi (fun v29 e30 => ?_)
      have hb := hb v29 e30
      refine wp_istore_n (lv2 := [(2, .int v29), (0, .ref x0), (1, .int x1), (3, .int x3)]) dX12_never_82 rfl (by decide) rfl ?_
      obtain ⟨v31, e32⟩ : ∃ y : Int32, y = x3 + (1) := ⟨_, rfl⟩
      have hb := hb v31 e32
      refine wp_iinc (v := v31) (lv2 := [(3, .int v31), (2, .int v29), (0, .ref x0), (1, .int x1)]) 3 dX12_never_83 rfl (by rw [e32]; rfl) (by decide) rfl ?_
      refine wp_goto (tgt := 51) dX12_never_86 (by decide) ?_
      exact wp_sub [2, 3, 1, 0] rfl hb
theorem c_X12_never {l : Launch} {g : AG} {h : AH} {x0 : Nat}  {Q : Int32 → AH → Prop} (hb : L_X12_never_0 l g h x0  Q) : C_X12_never l g h x0  Q := ax_met rfl (Nat.le_of_ble_eq_true rfl) hb
