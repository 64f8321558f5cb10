def C_X12_comes (l : Launch) (g : AG) (h : AH) (x0 : Nat) (x1 : Nat) (x2 : Int32)  (Q : Int32 → AH → Prop) : Prop := Ct l g mX12_comes 3 69 194 194 h [.ref x0, .ref x1, .int x2] (ax_QI Q)
def L_X12_comes_0 (l : Launch) (g : AG) (h : AH) (x0 : Nat) (x1 : Nat) (x2 : Int32)  (Q : Int32 → AH → Prop) : Prop := Wp l g mX12_comes 3 69 194 194 194 0 [(0, .ref x0), (1, .ref x1), (2, .int x2)] [] h (FM g 194 194 (ax_QI Q))
def L_X12_comes_11 (l : Launch) (g : AG) (h : AH) (x0 : Nat) (x1 : Nat) (x2 : Int32) (x3 : Int32)  (Q : Int32 → AH → Prop) : Prop := Wp l g mX12_comes 3 69 194 194 194 11 [(0, .ref x0), (1, .ref x1), (2, .int x2), (3, .int x3)] [] h (FM g 194 194 (ax_QI Q))
set_option maxRecDepth 100000 in
set_option maxHeartbeats 4000000 in
theorem s_X12_comes_0 {l : Launch} {g : AG} {h : AH} {x0 : Nat} {x1 : Nat} {x2 : Int32}  {Q : Int32 → AH → Prop} (hb : (Is 194 x0 11) ∧ ( C_X12_begins l g h x0 (fun h3 => ( ∀ h4 : AH, h4 = ax_setI h3 x0 42 0 → ( L_X12_comes_11 l g h4 x0 x1 x2 0  Q))))) : L_X12_comes_0 l g h x0 x1 x2  Q := by
  obtain ⟨i1, hb⟩ := hb
  refine wp_aload_n 0 dX12_comes_0 rfl rfl ?_
  refine wp_callV (as := []) dX12_comes_1 cb_X12_begins lk_X12_324 im_X12_begins se_X12_begins rfl (Nat.le_of_ble_eq_true rfl) ⟨by decide, by decide⟩ ⟨Nat.le_refl _, Nat.le_refl _, Nat.le_refl _⟩ i1 rfl (by decide) hb (fun r0 h3 hb => ?_)
  obtain ⟨rfl, hb⟩ := hb
  refine wp_aload_n 0 dX12_comes_4 rfl rfl ?_
  refine wp_iconst (v := 0) dX12_comes_5 (by decide) ?_
  refine wp_putI dX12_comes_6 fl_X12_418 (Or.inl rfl) i1 ?_
  refine wp_topH (fun h4 e5 => ?_)
  have hb := hb h4 e5
  refine wp_iconst (v := 0) dX12_comes_9 (by decide) ?_
  refine wp_istore_n (lv2 := [(3, .int 0), (0, .ref x0), (1, .ref x1), (2, .int x2)]) dX12_comes_10 rfl (by decide) rfl ?_
  exact wp_sub [1, 2, 3, 0] rfl hb
set_option maxRecDepth 100000 in
set_option maxHeartbeats 4000000 in
theorem s_X12_comes_11 {l : Launch} {g : AG} {h : AH} {x0 : Nat} {x1 : Nat} {x2 : Int32} {x3 : Int32}  {Q : Int32 → AH → Prop} (hb : (Is 194 x0 11) ∧ ( ((h.1 x0 40 ≤ x3 → (Q (h.1 x0 19) h)) ∧ (¬ (h.1 x0 40 ≤ x3) → (((¬ h.1 x0 19 = 0 → (Q (h.1 x0 19) h)) ∧ (h.1 x0 19 = 0 → (∀ h9 : AH, h9 = ax_setI h x0 42 ((h.1 x0 42) + 1) → ( ((x3 = x2 → (∀ v12 : Int32, v12 = x3 + (1) → ( L_X12_comes_11 l g h9 x0 x1 x2 v12  Q))) ∧ (¬ (x3 = x2) → ((Is 194 (h9.2.2 x0 39) 20) ∧ ( (vp_in x3 (ax_s (h9.2.2 x0 39)).2) ∧ ( C_X12_isAct l g h9 (h9.1 (h9.2.2 x0 39) x3.toNatClampNeg) (fun r18 h17 => ( ((r18 = 0 → (∀ v20 : Int32, v20 = x3 + (1) → ( L_X12_comes_11 l g h17 x0 x1 x2 v20  Q))) ∧ (¬ (r18 = 0) → ((Is 194 x1 9) ∧ ( C_X12_possible l g h17 x0 x1 (fun r25 h24 => ( (Is 194 (h24.2.2 x0 39) 20) ∧ ( (vp_in x3 (ax_s (h24.2.2 x0 39)).2) ∧ ( ∀ v28 : Int32, v28 = (jishr r25 (h24.1 (h24.2.2 x0 39) x3.toNatClampNeg)) → ( ((¬ v28 &&& 1 = 1 → (∀ v31 : Int32, v31 = x3 + (1) → ( L_X12_comes_11 l g h24 x0 x1 x2 v31  Q))) ∧ (v28 &&& 1 = 1 → ((Is 194 (h24.2.2 x0 39) 20) ∧ ( (vp_in x3 (ax_s (h24.2.2 x0 39)).2) ∧ ( C_X12_acts l g h24 x0 x1 (h24.1 (h24.2.2 x0 39) x3.toNatClampNeg) (fun h36 => ( ∀ v37 : Int32, v37 = x3 + (1) → ( L_X12_comes_11 l g h36 x0 x1 x2 v37  Q))))))))))))))))))))))))))))))))) : L_X12_comes_11 l g h x0 x1 x2 x3  Q := by
  refine wp_iload_n 3 dX12_comes_11 rfl rfl ?_
  obtain ⟨i6, hb⟩ := hb
  refine wp_aload_n 0 dX12_comes_12 rfl rfl ?_
  refine wp_getI dX12_comes_13 fl_X12_415 i6 ?_
  refine wp_icmp_ge (tgt := 88) dX12_comes_16 (by decide) (fun c7 => ?_) (fun c7 => ?_)
  · have hb := hb.1 c7
    refine wp_aload_n 0 dX12_comes_88 rfl rfl ?_
    refine wp_getI dX12_comes_89 fl_X12_343 i6 ?_
    exact wp_iret rfl dX12_comes_92 ⟨_, rfl, hb⟩
  · have hb := hb.2 c7
    refine wp_aload_n 0 dX12_comes_19 rfl rfl ?_
    refine wp_getI dX12_comes_20 fl_X12_343 i6 ?_
    refine wp_if_ne (tgt := 88) dX12_comes_23 (by decide) (fun c8 => ?_) (fun c8 => ?_)
    · have hb := hb.1 c8
      refine wp_aload_n 0 dX12_comes_88 rfl rfl ?_
      refine wp_getI dX12_comes_89 fl_X12_343 i6 ?_
      exact wp_iret rfl dX12_comes_92 ⟨_, rfl, hb⟩
    · have hb := hb.2 c8
      refine wp_aload_n 0 dX12_comes_26 rfl rfl ?_
      refine wp_dup dX12_comes_27 rfl ?_
      refine wp_getI dX12_comes_28 fl_X12_418 i6 ?_
      refine wp_iconst (v := 1) dX12_comes_31 (by decide) ?_
      refine wp_iadd dX12_comes_32 ?_
      refine wp_putI dX12_comes_33 fl_X12_418 (Or.inl rfl) i6 ?_
      refine wp_topH (fun h9 e10 => ?_)
      have hb := hb h9 e10
      refine wp_iload_n 3 dX12_comes_36 rfl rfl ?_
      refine wp_iload_n 2 dX12_comes_37 rfl rfl ?_
      refine wp_icmp_eq (tgt := 82) dX12_comes_38 (by decide) (fun c11 => ?_) (fun c11 => ?_)
      · have hb := hb.1 c11
        obtain ⟨v12, e13⟩ : ∃ y : Int32, y = x3 + (1) := ⟨_, rfl⟩
        have hb := hb v12 e13
        refine wp_iinc (v := v12) (lv2 := [(3, .int v12), (0, .ref x0), (1, .ref x1), (2, .int x2)]) 3 dX12_comes_82 rfl (by rw [e13]; rfl) (by decide) rfl ?_
        refine wp_goto (tgt := 11) dX12_comes_85 (by decide) ?_
        exact wp_sub [1, 2, 3, 0] rfl hb
      · have hb := hb.2 c11
        refine wp_aload_n 0 dX12_comes_41 rfl rfl ?_
        obtain ⟨i14, hb⟩ := hb
        refine wp_getR dX12_comes_42 fl_X12_101 i6 (i14.ne (by decide)) ?_
        refine wp_iload_n 3 dX12_comes_45 rfl rfl ?_
        obtain ⟨b15, hb⟩ := hb
        refine wp_iaload dX12_comes_46 i14 b15 ?_
        refine wp_callS (as := [.int (h9.1 (h9.2.2 x0 39) x3.toNatClampNeg)]) dX12_comes_47 cb_X12_isAct lk_X12_374 st_X12_isAct rfl (Nat.le_of_ble_eq_true rfl) ⟨by decide, by decide⟩ ⟨Nat.le_refl _, Nat.le_refl _, Nat.le_refl _⟩ hb (fun r0 h17 hb => ?_)
        obtain ⟨r18, rfl, hb⟩ := hb
        refine wp_if_eq (tgt := 82) dX12_comes_50 (by decide) (fun c19 => ?_) (fun c19 => ?_)
        · have hb := hb.1 c19
          obtain ⟨v20, e21⟩ : ∃ y : Int32, y = x3 + (1) := ⟨_, rfl⟩
          have hb := hb v20 e21
          refine wp_iinc (v := v20) (lv2 := [(3, .int v20), (0, .ref x0), (1, .ref x1), (2, .int x2)]) 3 dX12_comes_82 rfl (by rw [e21]; rfl) (by decide) rfl ?_
          refine wp_goto (tgt := 11) dX12_comes_85 (by decide) ?_
          exact wp_sub [1, 2, 3, 0] rfl hb
        · have hb := hb.2 c19
          refine wp_aload_n 0 dX12_comes_53 rfl rfl ?_
          obtain ⟨i22, hb⟩ := hb
          refine wp_aload_n 1 dX12_comes_54 rfl rfl ?_
          refine wp_callV (as := [.ref x1]) dX12_comes_55 cb_X12_possible lk_X12_381 im_X12_possible se_X12_possible rfl (Nat.le_of_ble_eq_true rfl) ⟨by decide, by decide⟩ ⟨Nat.le_refl _, Nat.le_refl _, Nat.le_refl _⟩ i6 rfl (by decide) hb (fun r0 h24 hb => ?_)
          obtain ⟨r25, rfl, hb⟩ := hb
          refine wp_aload_n 0 dX12_comes_58 rfl rfl ?_
          obtain ⟨i26, hb⟩ := hb
          refine wp_getR dX12_comes_59 fl_X12_101 i6 (i26.ne (by decide)) ?_
          refine wp_iload_n 3 dX12_comes_62 rfl rfl ?_
          obtain ⟨b27, hb⟩ := hb
          refine wp_iaload dX12_comes_63 i26 b27 ?_
          refine wp_ishr dX12_comes_64 ?_
          refine wp_topi (fun v28 e29 => ?_)
          have hb := hb v28 e29
          refine wp_iconst (v := 1) dX12_comes_65 (by decide) ?_
          refine wp_iand dX12_comes_66 ?_
          refine wp_iconst (v := 1) dX12_comes_67 (by decide) ?_
          refine wp_icmp_ne (tgt := 82) dX12_comes_68 (by decide) (fun c30 => ?_) (fun c30 => ?_)
          · have hb := hb.1 c30
            obtain ⟨v31, e32⟩ : ∃ y : Int32, y = x3 + (1) := ⟨_, rfl⟩
            have hb := hb v31 e32
            refine wp_iinc (v := v31) (lv2 := [(3, .int v31), (0, .ref x0), (1, .ref x1), (2, .int x2)]) 3 dX12_comes_82 rfl (by rw [e32]; rfl) (by decide) rfl ?_
            refine wp_goto (tgt := 11) dX12_comes_85 (by decide) ?_
            exact wp_sub [1, 2, 3, 0] rfl hb
          · have hb := hb.2 c30
            refine wp_aload_n 0 dX12_comes_71 rfl rfl ?_
            refine wp_aload_n 1 dX12_comes_72 rfl rfl ?_
            refine wp_aload_n 0 dX12_comes_73 rfl rfl ?_
            obtain ⟨i33, hb⟩ := hb
            refine wp_getR dX12_comes_74 fl_X12_101 i6 (i33.ne (by decide)) ?_
            refine wp_iload_n 3 dX12_comes_77 rfl rfl ?_
            obtain ⟨b34, hb⟩ := hb
            refine wp_iaload dX12_comes_78 i33 b34 ?_
            refine wp_callV (as := [.ref x1, .int (h24.1 (h24.2.2 x0 39) x3.toNatClampNeg)]) dX12_comes_79 cb_X12_acts lk_X12_384 im_X12_acts se_X12_acts rfl (Nat.le_of_ble_eq_true rfl) ⟨by decide, by decide⟩ ⟨Nat.le_refl _, Nat.le_refl _, Nat.le_refl _⟩ i6 rfl (by decide) hb (fun r0 h36 hb => ?_)
            obtain ⟨rfl, hb⟩ := hb
            obtain ⟨v37, e38⟩ : ∃ y : Int32, y = x3 + (1) := ⟨_, rfl⟩
            have hb := hb v37 e38
            refine wp_iinc (v := v37) (lv2 := [(3, .int v37), (0, .ref x0), (1, .ref x1), (2, .int x2)]) 3 dX12_comes_82 rfl (by rw [e38]; rfl) (by decide) rfl ?_
            refine wp_goto (tgt := 11) dX12_comes_85 (by decide) ?_
            exact wp_sub [1, 2, 3, 0] rfl hb
theorem c_X12_comes {l : Launch} {g : AG} {h : AH} {x0 : Nat} {x1 : Nat} {x2 : Int32}  {Q : Int32 → AH → Prop} (hb : L_X12_comes_0 l g h x0 x1 x2  Q) : C_X12_comes l g h x0 x1 x2  Q := ax_met rfl (Nat.le_of_ble_eq_true rfl) hb
def C_X12_tryRow (l : Launch) (g : AG) (h : AH) (x0 : Nat) (x1 : Int32)  (Q : Int32 → AH → Prop) : Prop := Ct l g mX12_tryRow 4 92 194 194 h [.ref x0, .int x1] (ax_QI Q)
def L_X12_tryRow_0 (l : Launch) (g : AG) (h : AH) (x0 : Nat) (x1 : Int32)  (Q : Int32 → AH → Prop) : Prop := Wp l g mX12_tryRow 4 92 194 194 194 0 [(0, .ref x0), (1, .int x1)] [] h (FM g 194 194 (ax_QI Q))
set_option maxRecDepth 100000 in
set_option maxHeartbeats 4000000 in
theorem s_X12_tryRow_0 {l : Launch} {g : AG} {h : AH} {x0 : Nat} {x1 : Int32}  {Q : Int32 → AH → Prop} (hb : (Is 194 x0 11) ∧ ( ∀ h2 : AH, h2 = ax_setI h x0 0 0 → ( C_X12_isApp l g h2 x0 x1 (fun r6 h5 => ( ((¬ r6 = 0 → ((Is 194 (h5.2.2 x0 4) 25) ∧ ( (vp_in x1 (ax_s (h5.2.2 x0 4)).2) ∧ ( (Is 194 (h5.2.2 (h5.2.2 x0 4) x1.toNatClampNeg) 9) ∧ ( C_X12_comes l g h5 x0 (h5.2.2 (h5.2.2 x0 4) x1.toNatClampNeg) (-1) (fun r13 h12 => ( ∀ h14 : AH, h14 = ax_setI h12 x0 41 (h12.1 x0 42) → ( C_X12_done l g h14 x0 r13 (fun r18 h17 => ( Q r18 h17)))))))))) ∧ (r6 = 0 → (C_X12_refused l g h5 x0 1 (fun r21 h20 => ( Q r21 h20)))))))))) : L_X12_tryRow_0 l g h x0 x1  Q := by
  obtain ⟨i1, hb⟩ := hb
  refine wp_aload_n 0 dX12_tryRow_0 rfl rfl ?_
  refine wp_iconst (v := 0) dX12_tryRow_1 (by decide) ?_
  refine wp_putI dX12_tryRow_2 fl_X12_1 (Or.inl rfl) i1 ?_
  refine wp_topH (fun h2 e3 => ?_)
  have hb := hb h2 e3
  refine wp_aload_n 0 dX12_tryRow_5 rfl rfl ?_
  refine wp_iload_n 1 dX12_tryRow_6 rfl rfl ?_
  refine wp_callV (as := [.int x1]) dX12_tryRow_7 cb_X12_isApp lk_X12_340 im_X12_isApp se_X12_isApp rfl (Nat.le_of_ble_eq_true rfl) ⟨by decide, by decide⟩ ⟨Nat.le_refl _, Nat.le_refl _, Nat.le_refl _⟩ i1 rfl (by decide) hb (fun r0 h5 hb => ?_)
  obtain ⟨r6, rfl, hb⟩ := hb
  refine wp_if_ne (tgt := 19) dX12_tryRow_10 (by decide) (fun c7 => ?_) (fun c7 => ?_)
  · have hb := hb.1 c7
    refine wp_aload_n 0 dX12_tryRow_19 rfl rfl ?_
    refine wp_aload_n 0 dX12_tryRow_20 rfl rfl ?_
    obtain ⟨i8, hb⟩ := hb
    refine wp_getR dX12_tryRow_21 fl_X12_21 i1 (i8.ne (by decide)) ?_
    refine wp_iload_n 1 dX12_tryRow_24 rfl rfl ?_
    obtain ⟨b9, hb⟩ := hb
    obtain ⟨i10, hb⟩ := hb
    refine wp_aaload25 dX12_tryRow_25 i8 b9 (i10.ne (by decide)) ?_
    refine wp_iconst (v := (-1)) dX12_tryRow_26 (by decide) ?_
    refine wp_callV (as := [.ref (h5.2.2 (h5.2.2 x0 4) x1.toNatClampNeg), .int (-1)]) dX12_tryRow_27 cb_X12_comes lk_X12_421 im_X12_comes se_X12_comes rfl (Nat.le_of_ble_eq_true rfl) ⟨by decide, by decide⟩ ⟨Nat.le_refl _, Nat.le_refl _, Nat.le_refl _⟩ i1 rfl (by decide) hb (fun r0 h12 hb => ?_)
    obtain ⟨r13, rfl, hb⟩ := hb
    refine wp_istore_n (lv2 := [(2, .int r13), (0, .ref x0), (1, .int x1)]) dX12_tryRow_30 rfl (by decide) rfl ?_
    refine wp_aload_n 1 dX12_tryRow_31 rfl rfl ?_
    refine wp_aload_n 1 dX12_tryRow_32 rfl rfl ?_
    refine wp_getI dX12_tryRow_33 fl_X12_418 i1 ?_
    refine wp_putI dX12_tryRow_36 fl_X12_104 (Or.inl rfl) i1 ?_
    refine wp_topH (fun h14 e15 => ?_)
    have hb := hb h14 e15
    refine wp_aload_n 1 dX12_tryRow_39 rfl rfl ?_
    refine wp_iload_n 0 dX12_tryRow_40 rfl rfl ?_
    refine wp_callV (as := [.int r13]) dX12_tryRow_41 cb_X12_done lk_X12_337 im_X12_done se_X12_done rfl (Nat.le_of_ble_eq_true rfl) ⟨by decide, by decide⟩ ⟨Nat.le_refl _, Nat.le_refl _, Nat.le_refl _⟩ i1 rfl (by decide) hb (fun r0 h17 hb => ?_)
    obtain ⟨r18, rfl, hb⟩ := hb
    exact wp_iret rfl dX12_tryRow_44 ⟨_, rfl, hb⟩
  · have hb := hb.2 c7
    refine wp_aload_n 0 dX12_tryRow_13 rfl rfl ?_
    refine wp_iconst (v := 1) dX12_tryRow_14 (by decide) ?_
    refine wp_callV (as := [.int 1]) dX12_tryRow_15 cb_X12_refused lk_X12_316 im_X12_refused se_X12_refused rfl (Nat.le_of_ble_eq_true rfl) ⟨by decide, by decide⟩ ⟨Nat.le_refl _, Nat.le_refl _, Nat.le_refl _⟩ i1 rfl (by decide) hb (fun r0 h20 hb => ?_)
    obtain ⟨r21, rfl, hb⟩ := hb
    exact wp_iret rfl dX12_tryRow_18 ⟨_, rfl, hb⟩
theorem c_X12_tryRow {l : Launch} {g : AG} {h : AH} {x0 : Nat} {x1 : Int32}  {Q : Int32 → AH → Prop} (hb : L_X12_tryRow_0 l g h x0 x1  Q) : C_X12_tryRow l g h x0 x1  Q := ax_met rfl (Nat.le_of_ble_eq_true rfl) hb
