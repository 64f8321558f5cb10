def C_X12_act (l : Launch) (g : AG) (h : AH) (x0 : Nat) (x1 : Int32) (x2 : Int32)  (Q : Int32 → AH → Prop) : Prop := Ct l g mX12_act 3 69 194 194 h [.ref x0, .int x1, .int x2] (ax_QI Q)
def L_X12_act_0 (l : Launch) (g : AG) (h : AH) (x0 : Nat) (x1 : Int32) (x2 : Int32)  (Q : Int32 → AH → Prop) : Prop := Wp l g mX12_act 3 69 194 194 194 0 [(0, .ref x0), (1, .int x1), (2, .int x2)] [] h (FM g 194 194 (ax_QI Q))
set_option maxRecDepth 100000 in
set_option maxHeartbeats 4000000 in
theorem s_X12_act_0 {l : Launch} {g : AG} {h : AH} {x0 : Nat} {x1 : Int32} {x2 : Int32}  {Q : Int32 → AH → Prop} (hb : (Is 194 x0 11) ∧ ( ∀ h2 : AH, h2 = ax_setI h x0 0 0 → ( C_X12_isApp l g h2 x0 x1 (fun r6 h5 => ( ((¬ r6 = 0 → (C_X12_isAct l g h5 x2 (fun r10 h9 => ( ((¬ r10 = 0 → ((Is 194 (h9.2.2 x0 7) 21) ∧ ( (vp_in x1 (ax_s (h9.2.2 x0 7)).2) ∧ ( (Is 194 (h9.2.2 x0 8) 21) ∧ ( (vp_in x1 (ax_s (h9.2.2 x0 8)).2) ∧ ( C_X12_unpack l g h9 x0 (h9.2.1 (h9.2.2 x0 7) x1.toNatClampNeg) (h9.2.1 (h9.2.2 x0 8) x1.toNatClampNeg) (fun h17 => ( (Is 194 (h17.2.2 x0 4) 25) ∧ ( (vp_in x1 (ax_s (h17.2.2 x0 4)).2) ∧ ( (Is 194 (h17.2.2 (h17.2.2 x0 4) x1.toNatClampNeg) 9) ∧ ( C_X12_possible l g h17 x0 (h17.2.2 (h17.2.2 x0 4) x1.toNatClampNeg) (fun r23 h22 => ( ((¬ (jishr r23 x2) &&& 1 = 0 → ((Is 194 (h22.2.2 x0 4) 25) ∧ ( (vp_in x1 (ax_s (h22.2.2 x0 4)).2) ∧ ( (Is 194 (h22.2.2 (h22.2.2 x0 4) x1.toNatClampNeg) 9) ∧ ( C_X12_acts l g h22 x0 (h22.2.2 (h22.2.2 x0 4) x1.toNatClampNeg) x2 (fun h29 => ( (Is 194 (h29.2.2 x0 7) 21) ∧ ( C_X12_packed l g h29 x0 (fun r33 h32 => ( (vp_in x1 (ax_s (h29.2.2 x0 7)).2) ∧ ( ∀ h35 : AH, h35 = ax_setL h32 (h29.2.2 x0 7) x1.toNatClampNeg r33 → ( (Is 194 (h35.2.2 x0 8) 21) ∧ ( C_X12_packedVars l g h35 x0 (fun r40 h39 => ( (vp_in x1 (ax_s (h35.2.2 x0 8)).2) ∧ ( ∀ h42 : AH, h42 = ax_setL h39 (h35.2.2 x0 8) x1.toNatClampNeg r40 → ( C_X12_done l g h42 x0 1 (fun r46 h45 => ( Q r46 h45))))))))))))))))))) ∧ ((jishr r23 x2) &&& 1 = 0 → (C_X12_refused l g h22 x0 4 (fun r49 h48 => ( Q r49 h48)))))))))))))))))) ∧ (r10 = 0 → (C_X12_refused l g h9 x0 2 (fun r52 h51 => ( Q r52 h51))))))))) ∧ (r6 = 0 → (C_X12_refused l g h5 x0 1 (fun r55 h54 => ( Q r55 h54)))))))))) : L_X12_act_0 l g h x0 x1 x2  Q := by
  obtain ⟨i1, hb⟩ := hb
  refine wp_aload_n 0 dX12_act_0 rfl rfl ?_
  refine wp_iconst (v := 0) dX12_act_1 (by decide) ?_
  refine wp_putI dX12_act_2 fl_X12_1 (Or.inl rfl) i1 ?_
  refine wp_topH (fun h2 e3 => ?_)
  have hb := hb h2 e3
  refine wp_aload_n 0 dX12_act_5 rfl rfl ?_
  refine wp_iload_n 1 dX12_act_6 rfl rfl ?_
  refine wp_callV (as := [.int x1]) dX12_act_7 cb_X12_isApp lk_X12_340 im_X12_isApp se_X12_isApp rfl (Nat.le_of_ble_eq_true rfl) ⟨by decide, by decide⟩ ⟨Nat.le_refl _, Nat.le_refl _, Nat.le_refl _⟩ i1 rfl (by decide) hb (fun r0 h5 hb => ?_)
  obtain ⟨r6, rfl, hb⟩ := hb
  refine wp_if_ne (tgt := 19) dX12_act_10 (by decide) (fun c7 => ?_) (fun c7 => ?_)
  · have hb := hb.1 c7
    refine wp_iload_n 2 dX12_act_19 rfl rfl ?_
    refine wp_callS (as := [.int x2]) dX12_act_20 cb_X12_isAct lk_X12_374 st_X12_isAct rfl (Nat.le_of_ble_eq_true rfl) ⟨by decide, by decide⟩ ⟨Nat.le_refl _, Nat.le_refl _, Nat.le_refl _⟩ hb (fun r0 h9 hb => ?_)
    obtain ⟨r10, rfl, hb⟩ := hb
    refine wp_if_ne (tgt := 32) dX12_act_23 (by decide) (fun c11 => ?_) (fun c11 => ?_)
    · have hb := hb.1 c11
      refine wp_aload_n 0 dX12_act_32 rfl rfl ?_
      refine wp_aload_n 0 dX12_act_33 rfl rfl ?_
      obtain ⟨i12, hb⟩ := hb
      refine wp_getR dX12_act_34 fl_X12_34 i1 (i12.ne (by decide)) ?_
      refine wp_iload_n 1 dX12_act_37 rfl rfl ?_
      obtain ⟨b13, hb⟩ := hb
      refine wp_laload dX12_act_38 i12 b13 ?_
      refine wp_aload_n 0 dX12_act_39 rfl rfl ?_
      obtain ⟨i14, hb⟩ := hb
      refine wp_getR dX12_act_40 fl_X12_38 i1 (i14.ne (by decide)) ?_
      refine wp_iload_n 1 dX12_act_43 rfl rfl ?_
      obtain ⟨b15, hb⟩ := hb
      refine wp_laload dX12_act_44 i14 b15 ?_
      refine wp_callV (as := [.long (h9.2.1 (h9.2.2 x0 7) x1.toNatClampNeg), .long (h9.2.1 (h9.2.2 x0 8) x1.toNatClampNeg)]) dX12_act_45 cb_X12_unpack lk_X12_377 im_X12_unpack se_X12_unpack rfl (Nat.le_of_ble_eq_true rfl) ⟨by decide, by decide⟩ ⟨Nat.le_refl _, Nat.le_refl _, Nat.le_refl _⟩ i1 rfl (by decide) hb (fun r0 h17 hb => ?_)
      obtain ⟨rfl, hb⟩ := hb
      refine wp_aload_n 0 dX12_act_48 rfl rfl ?_
      refine wp_aload_n 0 dX12_act_49 rfl rfl ?_
      obtain ⟨i18, hb⟩ := hb
      refine wp_getR dX12_act_50 fl_X12_21 i1 (i18.ne (by decide)) ?_
      refine wp_iload_n 1 dX12_act_53 rfl rfl ?_
      obtain ⟨b19, hb⟩ := hb
      obtain ⟨i20, hb⟩ := hb
      refine wp_aaload25 dX12_act_54 i18 b19 (i20.ne (by decide)) ?_
      refine wp_callV (as := [.ref (h17.2.2 (h17.2.2 x0 4) x1.toNatClampNeg)]) dX12_act_55 cb_X12_possible lk_X12_381 im_X12_possible se_X12_possible rfl (Nat.le_of_ble_eq_true rfl) ⟨by decide, by decide⟩ ⟨Nat.le_refl _, Nat.le_refl _, Nat.le_refl _⟩ i1 rfl (by decide) hb (fun r0 h22 hb => ?_)
      obtain ⟨r23, rfl, hb⟩ := hb
      refine wp_iload_n 2 dX12_act_58 rfl rfl ?_
      refine wp_ishr dX12_act_59 ?_
      refine wp_iconst (v := 1) dX12_act_60 (by decide) ?_
      refine wp_iand dX12_act_61 ?_
      refine wp_if_ne (tgt := 71) dX12_act_62 (by decide) (fun c24 => ?_) (fun c24 => ?_)
      · have hb := hb.1 c24
        refine wp_aload_n 0 dX12_act_71 rfl rfl ?_
        refine wp_aload_n 0 dX12_act_72 rfl rfl ?_
        obtain ⟨i25, hb⟩ := hb
        refine wp_getR dX12_act_73 fl_X12_21 i1 (i25.ne (by decide)) ?_
        refine wp_iload_n 1 dX12_act_76 rfl rfl ?_
        obtain ⟨b26, hb⟩ := hb
        obtain ⟨i27, hb⟩ := hb
        refine wp_aaload25 dX12_act_77 i25 b26 (i27.ne (by decide)) ?_
        refine wp_iload_n 2 dX12_act_78 rfl rfl ?_
        refine wp_callV (as := [.ref (h22.2.2 (h22.2.2 x0 4) x1.toNatClampNeg), .int x2]) dX12_act_79 cb_X12_acts lk_X12_384 im_X12_acts se_X12_acts rfl (Nat.le_of_ble_eq_true rfl) ⟨by decide, by decide⟩ ⟨Nat.le_refl _, Nat.le_refl _, Nat.le_refl _⟩ i1 rfl (by decide) hb (fun r0 h29 hb => ?_)
        obtain ⟨rfl, hb⟩ := hb
        refine wp_aload_n 0 dX12_act_82 rfl rfl ?_
        obtain ⟨i30, hb⟩ := hb
        refine wp_getR dX12_act_83 fl_X12_34 i1 (i30.ne (by decide)) ?_
        refine wp_iload_n 1 dX12_act_86 rfl rfl ?_
        refine wp_aload_n 0 dX12_act_87 rfl rfl ?_
        refine wp_callV (as := []) dX12_act_88 cb_X12_packed lk_X12_327 im_X12_packed se_X12_packed rfl (Nat.le_of_ble_eq_true rfl) ⟨by decide, by decide⟩ ⟨Nat.le_refl _, Nat.le_refl _, Nat.le_refl _⟩ i1 rfl (by decide) hb (fun r0 h32 hb => ?_)
        obtain ⟨r33, rfl, hb⟩ := hb
        obtain ⟨b34, hb⟩ := hb
        refine wp_lastore dX12_act_91 i30 b34 ?_
        refine wp_topH (fun h35 e36 => ?_)
        have hb := hb h35 e36
        refine wp_aload_n 0 dX12_act_92 rfl rfl ?_
        obtain ⟨i37, hb⟩ := hb
        refine wp_getR dX12_act_93 fl_X12_38 i1 (i37.ne (by decide)) ?_
        refine wp_iload_n 1 dX12_act_96 rfl rfl ?_
        refine wp_aload_n 0 dX12_act_97 rfl rfl ?_
        refine wp_callV (as := []) dX12_act_98 cb_X12_packedVars lk_X12_331 im_X12_packedVars se_X12_packedVars rfl (Nat.le_of_ble_eq_true rfl) ⟨by decide, by decide⟩ ⟨Nat.le_refl _, Nat.le_refl _, Nat.le_refl _⟩ i1 rfl (by decide) hb (fun r0 h39 hb => ?_)
        obtain ⟨r40, rfl, hb⟩ := hb
        obtain ⟨b41, hb⟩ := hb
        refine wp_lastore dX12_act_101 i37 b41 ?_
        refine wp_topH (fun h42 e43 => ?_)
        have hb := hb h42 e43
        refine wp_aload_n 0 dX12_act_102 rfl rfl ?_
        refine wp_iconst (v := 1) dX12_act_103 (by decide) ?_
        refine wp_callV (as := [.int 1]) dX12_act_104 cb_X12_done lk_X12_337 im_X12_done se_X12_done rfl (Nat.le_of_ble_eq_true rfl) ⟨by decide, by decide⟩ ⟨Nat.le_refl _, Nat.le_refl _, Nat.le_refl _⟩ i1 rfl (by decide) hb (fun r0 h45 hb => ?_)
        obtain ⟨r46, rfl, hb⟩ := hb
        exact wp_iret rfl dX12_act_107 ⟨_, rfl, hb⟩
      · have hb := hb.2 c24
        refine wp_aload_n 0 dX12_act_65 rfl rfl ?_
        refine wp_iconst (v := 4) dX12_act_66 (by decide) ?_
        refine wp_callV (as := [.int 4]) dX12_act_67 cb_X12_refused lk_X12_316 im_X12_refused se_X12_refused rfl (Nat.le_of_ble_eq_true rfl) ⟨by decide, by decide⟩ ⟨Nat.le_refl _, Nat.le_refl _, Nat.le_refl _⟩ i1 rfl (by decide) hb (fun r0 h48 hb => ?_)
        obtain ⟨r49, rfl, hb⟩ := hb
        exact wp_iret rfl dX12_act_70 ⟨_, rfl, hb⟩
    · have hb := hb.2 c11
      refine wp_aload_n 0 dX12_act_26 rfl rfl ?_
      refine wp_iconst (v := 2) dX12_act_27 (by decide) ?_
      refine wp_callV (as := [.int 2]) dX12_act_28 cb_X12_refused lk_X12_316 im_X12_refused se_X12_refused rfl (Nat.le_of_ble_eq_true rfl) ⟨by decide, by decide⟩ ⟨Nat.le_refl _, Nat.le_refl _, Nat.le_refl _⟩ i1 rfl (by decide) hb (fun r0 h51 hb => ?_)
      obtain ⟨r52, rfl, hb⟩ := hb
      exact wp_iret rfl dX12_act_31 ⟨_, rfl, hb⟩
  · have hb := hb.2 c7
    refine wp_aload_n 0 dX12_act_13 rfl rfl ?_
    refine wp_iconst (v := 1) dX12_act_14 (by decide) ?_
    refine wp_callV (as := [.int 1]) dX12_act_15 cb_X12_refused lk_X12_316 im_X12_refused se_X12_refused rfl (Nat.le_of_ble_eq_true rfl) ⟨by decide, by decide⟩ ⟨Nat.le_refl _, Nat.le_refl _, Nat.le_refl _⟩ i1 rfl (by decide) hb (fun r0 h54 hb => ?_)
    obtain ⟨r55, rfl, hb⟩ := hb
    exact wp_iret rfl dX12_act_18 ⟨_, rfl, hb⟩
theorem c_X12_act {l : Launch} {g : AG} {h : AH} {x0 : Nat} {x1 : Int32} {x2 : Int32}  {Q : Int32 → AH → Prop} (hb : L_X12_act_0 l g h x0 x1 x2  Q) : C_X12_act l g h x0 x1 x2  Q := ax_met rfl (Nat.le_of_ble_eq_true rfl) hb
def C_X12_bits (l : Launch) (g : AG) (h : AH) (x0 : Int32)  (Q : Int32 → AH → Prop) : Prop := Ct l g mX12_bits 0 0 194 194 h [.int x0] (ax_QI Q)
def L_X12_bits_0 (l : Launch) (g : AG) (h : AH) (x0 : Int32)  (Q : Int32 → AH → Prop) : Prop := Wp l g mX12_bits 0 0 194 194 194 0 [(0, .int x0)] [] h (FM g 194 194 (ax_QI Q))
def L_X12_bits_4 (l : Launch) (g : AG) (h : AH) (x1 : Int32) (x2 : Int32)  (Q : Int32 → AH → Prop) : Prop := Wp l g mX12_bits 0 0 194 194 194 4 [(1, .int x1), (2, .int x2)] [] h (FM g 194 194 (ax_QI Q))
set_option maxRecDepth 100000 in
set_option maxHeartbeats 4000000 in
theorem s_X12_bits_0 {l : Launch} {g : AG} {h : AH} {x0 : Int32}  {Q : Int32 → AH → Prop} (hb : L_X12_bits_4 l g h 0 x0  Q) : L_X12_bits_0 l g h x0  Q := by
  refine wp_iconst (v := 0) dX12_bits_0 (by decide) ?_
  refine wp_istore_n (lv2 := [(1, .int 0), (0, .int x0)]) dX12_bits_1 rfl (by decide) rfl ?_
  refine wp_iload_n 1 dX12_bits_2 rfl rfl ?_
  refine wp_istore_n (lv2 := [(2, .int x0), (1, .int 0), (0, .int x0)]) dX12_bits_3 rfl (by decide) rfl ?_
  exact wp_sub [1, 0] rfl hb
set_option maxRecDepth 100000 in
set_option maxHeartbeats 4000000 in
theorem s_X12_bits_4 {l : Launch} {g : AG} {h : AH} {x1 : Int32} {x2 : Int32}  {Q : Int32 → AH → Prop} (hb : ((x2 = 0 → (Q x1 h)) ∧ (¬ (x2 = 0) → (∀ v2 : Int32, v2 = x1 + (1) → ( ∀ v4 : Int32, v4 = (x2 &&& (x2 - 1)) → ( L_X12_bits_4 l g h v2 v4  Q)))))) : L_X12_bits_4 l g h x1 x2  Q := by
  refine wp_iload_n 1 dX12_bits_4 rfl rfl ?_
  refine wp_if_eq (tgt := 20) dX12_bits_5 (by decide) (fun c1 => ?_) (fun c1 => ?_)
  · have hb := hb.1 c1
    refine wp_iload_n 0 dX12_bits_20 rfl rfl ?_
    exact wp_iret rfl dX12_bits_21 ⟨_, rfl, hb⟩
  · have hb := hb.2 c1
    obtain ⟨v2, e3⟩ : ∃ y : Int32, y = x1 + (1) := ⟨_, rfl⟩
    have hb := hb v2 e3
    refine wp_iinc (v := v2) (lv2 := [(1, .int v2), (2, .int x2)]) 0 dX12_bits_8 rfl (by rw [e3]; rfl) (by decide) rfl ?_
    refine wp_iload_n 1 dX12_bits_11 rfl rfl ?_
    refine wp_iload_n 1 dX12_bits_12 rfl rfl ?_
    refine wp_iconst (v := 1) dX12_bits_13 (by decide) ?_
    refine wp_isub dX12_bits_14 ?_
    refine wp_iand dX12_bits_15 ?_
    refine wp_topi (fun v4 e5 => ?_)
    have hb := hb v4 e5
    refine wp_istore_n (lv2 := [(2, .int v4), (1, .int v2)]) dX12_bits_16 rfl (by decide) rfl ?_
    refine wp_goto (tgt := 4) dX12_bits_17 (by decide) ?_
    exact wp_sub [1, 0] rfl hb
theorem c_X12_bits {l : Launch} {g : AG} {h : AH} {x0 : Int32}  {Q : Int32 → AH → Prop} (hb : L_X12_bits_0 l g h x0  Q) : C_X12_bits l g h x0  Q := ax_met rfl (Nat.le_of_ble_eq_true rfl) hb
