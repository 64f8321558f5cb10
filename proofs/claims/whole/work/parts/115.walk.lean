def C_X12_isAct (l : Launch) (g : AG) (h : AH) (x0 : Int32)  (Q : Int32 → AH → Prop) : Prop := Ct l g mX12_isAct 0 0 194 194 h [.int x0] (ax_QI Q)
def L_X12_isAct_0 (l : Launch) (g : AG) (h : AH) (x0 : Int32)  (Q : Int32 → AH → Prop) : Prop := Wp l g mX12_isAct 0 0 194 194 194 0 [(0, .int x0)] [] h (FM g 194 194 (ax_QI Q))
set_option maxRecDepth 100000 in
set_option maxHeartbeats 4000000 in
theorem s_X12_isAct_0 {l : Launch} {g : AG} {h : AH} {x0 : Int32}  {Q : Int32 → AH → Prop} (hb : ((x0 < 0 → (Q 0 h)) ∧ (¬ (x0 < 0) → (((27 ≤ x0 → (Q 0 h)) ∧ (¬ (27 ≤ x0) → (Q 1 h))))))) : L_X12_isAct_0 l g h x0  Q := by
  refine wp_iload_n 0 dX12_isAct_0 rfl rfl ?_
  refine wp_if_lt (tgt := 14) dX12_isAct_1 (by decide) (fun c1 => ?_) (fun c1 => ?_)
  · have hb := hb.1 c1
    refine wp_iconst (v := 0) dX12_isAct_14 (by decide) ?_
    exact wp_zret rfl dX12_isAct_15 (Or.inl rfl) ⟨_, rfl, hb⟩
  · have hb := hb.2 c1
    refine wp_iload_n 0 dX12_isAct_4 rfl rfl ?_
    refine wp_bipush (v := 27) dX12_isAct_5 (by decide) ?_
    refine wp_icmp_ge (tgt := 14) dX12_isAct_7 (by decide) (fun c2 => ?_) (fun c2 => ?_)
    · have hb := hb.1 c2
      refine wp_iconst (v := 0) dX12_isAct_14 (by decide) ?_
      exact wp_zret rfl dX12_isAct_15 (Or.inl rfl) ⟨_, rfl, hb⟩
    · have hb := hb.2 c2
      refine wp_iconst (v := 1) dX12_isAct_10 (by decide) ?_
      refine wp_goto (tgt := 15) dX12_isAct_11 (by decide) ?_
      exact wp_zret rfl dX12_isAct_15 (Or.inr rfl) ⟨_, rfl, hb⟩
theorem c_X12_isAct {l : Launch} {g : AG} {h : AH} {x0 : Int32}  {Q : Int32 → AH → Prop} (hb : L_X12_isAct_0 l g h x0  Q) : C_X12_isAct l g h x0  Q := ax_met rfl rfl (Nat.le_of_ble_eq_true rfl) hb
def C_X12_act (l : Launch) (g : AG) (h : AH) (x0 : Nat) (x1 : Int32) (x2 : Int32)  (Q : Int32 → AH → Prop) : Prop := Ct l g mX12_act 3 69 194 194 h [.ref x0, .int x1, .int x2] (ax_QI Q)
def L_X12_act_0 (l : Launch) (g : AG) (h : AH) (x0 : Nat) (x1 : Int32) (x2 : Int32)  (Q : Int32 → AH → Prop) : Prop := Wp l g mX12_act 3 69 194 194 194 0 [(0, .ref x0), (1, .int x1), (2, .int x2)] [] h (FM g 194 194 (ax_QI Q))
set_option maxRecDepth 100000 in
set_option maxHeartbeats 4000000 in
theorem s_X12_act_0 {l : Launch} {g : AG} {h : AH} {x0 : Nat} {x1 : Int32} {x2 : Int32}  {Q : Int32 → AH → Prop} (hb : (Is 194 x0 11) ∧ ( ∀ h2 : AH, h2 = ax_setI h x0 0 0 → ( C_X12_isApp l g h2 x0 x1 (fun r6 h5 => ( ((¬ r6 = 0 → (C_X12_isAct l g h5 x2 (fun r10 h9 => ( ((¬ r10 = 0 → ((Is 194 (h9.2.2 x0 7) 21) ∧ ( (vp_in x1 (ax_s (h9.2.2 x0 7)).2) ∧ ( (Is 194 (h9.2.2 x0 8) 21) ∧ ( (vp_in x1 (ax_s (h9.2.2 x0 8)).2) ∧ ( C_X12_unpack l g h9 x0 (h9.2.1 (h9.2.2 x0 7) x1.toNatClampNeg) (h9.2.1 (h9.2.2 x0 8) x1.toNatClampNeg) (fun h17 => ( (Is 194 (h17.2.2 x0 4) 25) ∧ ( (vp_in x1 (ax_s (h17.2.2 x0 4)).2) ∧ ( (Is 194 (h17.2.2 (h17.2.2 x0 4) x1.toNatClampNeg) 9) ∧ ( C_X12_possible l g h17 x0 (h17.2.2 (h17.2.2 x0 4) x1.toNatClampNeg) (fun r23 h22 => ( ((¬ (jishr r23 x2) &&& 1 = 0 → ((Is 194 (h22.2.2 x0 4) 25) ∧ ( (vp_in x1 (ax_s (h22.2.2 x0 4)).2) ∧ ( (Is 194 (h22.2.2 (h22.2.2 x0 4) x1.toNatClampNeg) 9) ∧ ( C_X12_acts l g h22 x0 (h22.2.2 (h22.2.2 x0 4) x1.toNatClampNeg) x2 (fun h29 => ( (Is 194 (h29.2.2 x0 7) 21) ∧ ( C_X12_packed l g h29 x0 (fun r33 h32 => ( (vp_in x1 (ax_s (h29.2.2 x0 7)).2) ∧ ( ∀ h35 : AH, h35 = ax_setL h32 (h29.2.2 x0 7) x1.toNatClampNeg r33 → ( (Is 194 (h35.2.2 x0 8) 21) ∧ ( C_X12_packedVars l g h35 x0 (fun r40 h39 => ( (vp_in x1 (ax_s (h35.2.2 x0 8)).2) ∧ ( ∀ h42 : AH, h42 = ax_setL h39 (h35.2.2 x0 8) x1.toNatClampNeg r40 → ( C_X12_done l g h42 x0 1 (fun r46 h45 => ( Q r46 h45))))))))))))))))))) ∧ ((jishr r23 x2) &&& 1 = 0 → (C_X12_refused l g h22 x0 4 (fun r49 h48 => ( Q r49 h48)))))))))))))))))) ∧ (r10 = 0 → (C_X12_refused l g h9 x0 2 (fun r52 h51 => ( Q r52 h51))))))))) ∧ (r6 = 0 → (C_X12_refused l g h5 x0 1 (fun r55 h54 => ( Q r55 h54)))))))))) : L_X12_act_0 l g h x0 x1 x2  Q := by
  obtain ⟨i1, hb⟩ := hb
  refine wp_aload_n 0 dX12_act_0 rfl rfl ?_
  refine wp_iconst (v := 0) dX12_act_1 (by decide) ?_
  refine wp_putI dX12_act_2 fl_X12_1 (Or.inl rfl) i1 ?_
  refine wp_topH (fun h2 e3 => ?_)
  have hb := hb h2 e3
  refine wp_aload_n 0 dX12_act_5 rfl rfl ?_
  refine wp_iload_n 1 dX12_act_6 rfl rfl ?_
  refine wp_callV (as := [.int x1]) dX12_act_7 cb_X12_isApp lk_X12_340 im_X12_isApp se_X12_isApp rfl (Nat.le_of_ble_eq_true rfl) ⟨by decide, by decide⟩ ⟨Nat.le_refl _, Nat.le_refl _, Nat.le_refl _⟩ i1 rfl (by decide) hb (fun r0 h5 hb => ?_)
  obtain ⟨r6, rfl, hb⟩ := hb
  refine wp_if_ne (tgt := 19) dX12_act_10 (by decide) (fun c7 => ?_) (fun c7 => ?_)
  · have hb := hb.1 c7
    refine wp_iload_n 2 dX12_act_19 rfl rfl ?_
    refine wp_callS (as := [.int x2]) dX12_act_20 cb_X12_isAct lk_X12_374 st_X12_isAct rfl (Nat.le_of_ble_eq_true rfl) ⟨by decide, by decide⟩ ⟨Nat.le_refl _, Nat.le_refl _, Nat.le_refl _⟩ hb (fun r0 h9 hb => ?_)
    obtain ⟨r10, rfl, hb⟩ := hb
    refine wp_if_ne (tgt := 32) dX12_act_23 (by decide) (fun c11 => ?_) (fun c11 => ?_)
    · have hb := hb.1 c11
      refine wp_aload_n 0 dX12_act_32 rfl rfl ?_
      refine wp_aload_n 0 dX12_act_33 rfl rfl ?_
      obtain ⟨i12, hb⟩ := hb
      refine wp_getR dX12_act_34 fl_X12_34 i1 (i12.ne (by decide)) ?_
      refine wp_iload_n 1 dX12_act_37 rfl rfl ?_
      obtain ⟨b13, hb⟩ := hb
      refine wp_laload dX12_act_38 i12 b13 ?_
      refine wp_aload_n 0 dX12_act_39 rfl rfl ?_
      obtain ⟨i14, hb⟩ := hb
      refine wp_getR dX12_act_40 fl_X12_38 i1 (i14.ne (by decide)) ?_
      refine wp_iload_n 1 dX12_act_43 rfl rfl ?_
      obtain ⟨b15, hb⟩ := hb
      refine wp_laload dX12_act_44 i14 b15 ?_
      refine wp_callV (as := [.long (h9.2.1 (h9.2.2 x0 7) x1.toNatClampNeg), .long (h9.2.1 (h9.2.2 x0 8) x1.toNatClampNeg)]) dX12_act_45 cb_X12_unpack lk_X12_377 im_X12_unpack se_X12_unpack rfl (Nat.le_of_ble_eq_true rfl) ⟨by decide, by decide⟩ ⟨Nat.le_refl _, Nat.le_refl _, Nat.le_refl _⟩ i1 rfl (by decide) hb (fun r0 h17 hb => ?_)
      obtain ⟨rfl, hb⟩ := hb
      refine wp_aload_n 0 dX12_act_48 rfl rfl ?_
      refine wp_aload_n 0 dX12_act_49 rfl rfl ?_
      obtain ⟨i18, hb⟩ := hb
      refine wp_getR dX12_act_50 fl_X12_21 i1 (i18.ne (by decide)) ?_
      refine wp_iload_n 1 dX12_act_53 rfl rfl ?_
      obtain ⟨b19, hb⟩ := hb
      obtain ⟨i20, hb⟩ := hb
      refine wp_aaload25 dX12_act_54 i18 b19 (i20.ne (by decide)) ?_
      refine wp_callV (as := [.ref (h17.2.2 (h17.2.2 x0 4) x1.toNatClampNeg)]) dX12_act_55 cb_X12_possible lk_X12_381 im_X12_possible se_X12_possible rfl (Nat.le_of_ble_eq_true rfl) ⟨by decide, by decide⟩ ⟨Nat.le_refl _, Nat.le_refl _, Nat.le_refl _⟩ i1 rfl (by decide) hb (fun r0 h22 hb => ?_)
      obtain ⟨r23, rfl, hb⟩ := hb
      refine wp_iload_n 2 dX12_act_58 rfl rfl ?_
      refine wp_ishr dX12_act_59 ?_
      refine wp_iconst (v := 1) dX12_act_60 (by decide) ?_
      refine wp_iand dX12_act_61 ?_
      refine wp_if_ne (tgt := 71) dX12_act_62 (by decide) (fun c24 => ?_) (fun c24 => ?_)
      · have hb := hb.1 c24
        refine wp_aload_n 0 dX12_act_71 rfl rfl ?_
        refine wp_aload_n 0 dX12_act_72 rfl rfl ?_
        obtain ⟨i25, hb⟩ := hb
        refine wp_getR dX12_act_73 fl_X12_21 i1 (i25.ne (by decide)) ?_
        refine wp_iload_n 1 dX12_act_76 rfl rfl ?_
        obtain ⟨b26, hb⟩ := hb
        obtain ⟨i27, hb⟩ := hb
        refine wp_aaload25 dX12_act_77 i25 b26 (i27.ne (by decide)) ?_
        refine wp_iload_n 2 dX12_act_78 rfl rfl ?_
        refine wp_callV (as := [.ref (h22.2.2 (h22.2.2 x0 4) x1.toNatClampNeg), .int x2]) dX12_act_79 cb_X12_acts lk_X12_384 im_X12_acts se_X12_acts rfl (Nat.le_of_ble_eq_true rfl) ⟨by decide, by decide⟩ ⟨Nat.le_refl _, Nat.le_refl _, Nat.le_refl _⟩ i1 rfl (by decide) hb (fun r0 h29 hb => ?_)
        obtain ⟨rfl, hb⟩ := hb
        refine wp_aload_n 0 dX12_act_82 rfl rfl ?_
        obtain ⟨i30, hb⟩ := hb
        refine wp_getR dX12_act_83 fl_X12_34 i1 (i30.ne (by decide)) ?_
        refine wp_iload_n 1 dX12_act_86 rfl rfl ?_
        refine wp_aload_n 0 dX12_act_87 rfl rfl ?_
        refine wp_callV (as := []) dX12_act_88 cb_X12_packed lk_X12_327 im_X12_packed se_X12_packed rfl (Nat.le_of_ble_eq_true rfl) ⟨by decide, by decide⟩ ⟨Nat.le_refl _, Nat.le_refl _, Nat.le_refl _⟩ i1 rfl (by decide) hb (fun r0 h32 hb => ?_)
        obtain ⟨r33, rfl, hb⟩ := hb
        obtain ⟨b34, hb⟩ := hb
        refine wp_lastore dX12_act_91 i30 b34 ?_
        refine wp_topH (fun h35 e36 => ?_)
        have hb := hb h35 e36
        refine wp_aload_n 0 dX12_act_92 rfl rfl ?_
        obtain ⟨i37, hb⟩ := hb
        refine wp_getR dX12_act_93 fl_X12_38 i1 (i37.ne (by decide)) ?_
        refine wp_iload_n 1 dX12_act_96 rfl rfl ?_
        refine wp_aload_n 0 dX12_act_97 rfl rfl ?_
        refine wp_callV (as := []) dX12_act_98 cb_X12_packedVars lk_X12_331 im_X12_packedVars se_X12_packedVars rfl (Nat.le_of_ble_eq_true rfl) ⟨by decide, by decide⟩ ⟨Nat.le_refl _, Nat.le_refl _, Nat.le_refl _⟩ i1 rfl (by decide) hb (fun r0 h39 hb => ?_)
        obtain ⟨r40, rfl, hb⟩ := hb
        obtain ⟨b41, hb⟩ := hb
        refine wp_lastore dX12_act_101 i37 b41 ?_
        refine wp_topH (fun h42 e43 => ?_)
        have hb := hb h42 e43
        refine wp_aload_n 0 dX12_act_102 rfl rfl ?_
        refine wp_iconst (v := 1) dX12_act_103 (by decide) ?_
        refine wp_callV (as := [.int 1]) dX12_act_104 cb_X12_done lk_X12_337 im_X12_done se_X12_done rfl (Nat.le_of_ble_eq_true rfl) ⟨by decide, by decide⟩ ⟨Nat.le_refl _, Nat.le_refl _, Nat.le_refl _⟩ i1 rfl (by decide) hb (fun r0 h45 hb => ?_)
        obtain ⟨r46, rfl, hb⟩ := hb
        exact wp_iret rfl dX12_act_107 ⟨_, rfl, hb⟩
      · have hb := hb.2 c24
        refine wp_aload_n 0 dX12_act_65 rfl rfl ?_
        refine wp_iconst (v := 4) dX12_act_66 (by decide) ?_
        refine wp_callV (as := [.int 4]) dX12_act_67 cb_X12_refused lk_X12_316 im_X12_refused se_X12_refused rfl (Nat.le_of_ble_eq_true rfl) ⟨by decide, by decide⟩ ⟨Nat.le_refl _, Nat.le_refl _, Nat.le_refl _⟩ i1 rfl (by decide) hb (fun r0 h48 hb => ?_)
        obtain ⟨r49, rfl, hb⟩ := hb
        exact wp_iret rfl dX12_act_70 ⟨_, rfl, hb⟩
    · have hb := hb.2 c11
      refine wp_aload_n 0 dX12_act_26 rfl rfl ?_
      refine wp_iconst (v := 2) dX12_act_27 (by decide) ?_
      refine wp_callV (as := [.int 2]) dX12_act_28 cb_X12_refused lk_X12_316 im_X12_refused se_X12_refused rfl (Nat.le_of_ble_eq_true rfl) ⟨by decide, by decide⟩ ⟨Nat.le_refl _, Nat.le_refl _, Nat.le_refl _⟩ i1 rfl (by decide) hb (fun r0 h51 hb => ?_)
      obtain ⟨r52, rfl, hb⟩ := hb
      exact wp_iret rfl dX12_act_31 ⟨_, rfl, hb⟩
  · have hb := hb.2 c7
    refine wp_aload_n 0 dX12_act_13 rfl rfl ?_
    refine wp_iconst (v := 1) dX12_act_14 (by decide) ?_
    refine wp_callV (as := [.int 1]) dX12_act_15 cb_X12_refused lk_X12_316 im_X12_refused se_X12_refused rfl (Nat.le_of_ble_eq_true rfl) ⟨by decide, by decide⟩ ⟨Nat.le_refl _, Nat.le_refl _, Nat.le_refl _⟩ i1 rfl (by decide) hb (fun r0 h54 hb => ?_)
    obtain ⟨r55, rfl, hb⟩ := hb
    exact wp_iret rfl dX12_act_18 ⟨_, rfl, hb⟩
theorem c_X12_act {l : Launch} {g : AG} {h : AH} {x0 : Nat} {x1 : Int32} {x2 : Int32}  {Q : Int32 → AH → Prop} (hb : L_X12_act_0 l g h x0 x1 x2  Q) : C_X12_act l g h x0 x1 x2  Q := ax_met rfl rfl (Nat.le_of_ble_eq_true rfl) hb
def C_X12_bits (l : Launch) (g : AG) (h : AH) (x0 : Int32)  (Q : Int32 → AH → Prop) : Prop := Ct l g mX12_bits 0 0 194 194 h [.int x0] (ax_QI Q)
def L_X12_bits_0 (l : Launch) (g : AG) (h : AH) (x0 : Int32)  (Q : Int32 → AH → Prop) : Prop := Wp l g mX12_bits 0 0 194 194 194 0 [(0, .int x0)] [] h (FM g 194 194 (ax_QI Q))
def L_X12_bits_4 (l : Launch) (g : AG) (h : AH) (x1 : Int32) (x2 : Int32)  (Q : Int32 → AH → Prop) : Prop := Wp l g mX12_bits 0 0 194 194 194 4 [(1, .int x1), (2, .int x2)] [] h (FM g 194 194 (ax_QI Q))
set_option maxRecDepth 100000 in
set_option maxHeartbeats 4000000 in
theorem s_X12_bits_0 {l : Launch} {g : AG} {h : AH} {x0 : Int32}  {Q : Int32 → AH → Prop} (hb : L_X12_bits_4 l g h 0 x0  Q) : L_X12_bits_0 l g h x0  Q := by
  refine wp_iconst (v := 0) dX12_bits_0 (by decide) ?_
  refine wp_istore_n (lv2 := [(1, .int 0), (0, .int x0)]) dX12_bits_1 rfl (by decide) rfl ?_
  refine wp_iload_n 1 dX12_bits_2 rfl rfl ?_
  refine wp_istore_n (lv2 := [(2, .int x0), (1, .int 0), (0, .int x0)]) dX12_bits_3 rfl (by decide) rfl ?_
  exact wp_sub [1, 0] rfl hb
set_option maxRecDepth 100000 in
set_option maxHeartbeats 4000000 in
theorem s_X12_bits_4 {l : Launch} {g : AG} {h : AH} {x1 : Int32} {x2 : Int32}  {Q : Int32 → AH → Prop} (hb : ((x2 = 0 → (Q x1 h)) ∧ (¬ (x2 = 0) → (∀ v2 : Int32, v2 = x1 + (1) → ( ∀ v4 : Int32, v4 = (x2 &&& (x2 - 1)) → ( L_X12_bits_4 l g h v2 v4  Q)))))) : L_X12_bits_4 l g h x1 x2  Q := by
  refine wp_iload_n 1 dX12_bits_4 rfl rfl ?_
  refine wp_if_eq (tgt := 20) dX12_bits_5 (by decide) (fun c1 => ?_) (fun c1 => ?_)
  · have hb := hb.1 c1
    refine wp_iload_n 0 dX12_bits_20 rfl rfl ?_
    exact wp_iret rfl dX12_bits_21 ⟨_, rfl, hb⟩
  · have hb := hb.2 c1
    obtain ⟨v2, e3⟩ : ∃ y : Int32, y = x1 + (1) := ⟨_, rfl⟩
    have hb := hb v2 e3
    refine wp_iinc (v := v2) (lv2 := [(1, .int v2), (2, .int x2)]) 0 dX12_bits_8 rfl (by rw [e3]; rfl) (by decide) rfl ?_
    refine wp_iload_n 1 dX12_bits_11 rfl rfl ?_
    refine wp_iload_n 1 dX12_bits_12 rfl rfl ?_
    refine wp_iconst (v := 1) dX12_bits_13 (by decide) ?_
    refine wp_isub dX12_bits_14 ?_
    refine wp_iand dX12_bits_15 ?_
    refine wp_topi (fun v4 e5 => ?_)
    have hb := hb v4 e5
    refine wp_istore_n (lv2 := [(2, .int v4), (1, .int v2)]) dX12_bits_16 rfl (by decide) rfl ?_
    refine wp_goto (tgt := 4) dX12_bits_17 (by decide) ?_
    exact wp_sub [1, 0] rfl hb
theorem c_X12_bits {l : Launch} {g : AG} {h : AH} {x0 : Int32}  {Q : Int32 → AH → Prop} (hb : L_X12_bits_0 l g h x0  Q) : C_X12_bits l g h x0  Q := ax_met rfl rfl (Nat.le_of_ble_eq_true rfl) hb
def C_X12_state (l : Launch) (g : AG) (h : AH) (x0 : Nat) (x1 : Int32) (x2 : Int32)  (Q : Int32 → AH → Prop) : Prop := Ct l g mX12_state 2 48 194 194 h [.ref x0, .int x1, .int x2] (ax_QI Q)
def L_X12_state_0 (l : Launch) (g : AG) (h : AH) (x0 : Nat) (x1 : Int32) (x2 : Int32)  (Q : Int32 → AH → Prop) : Prop := Wp l g mX12_state 2 48 194 194 194 0 [(0, .ref x0), (1, .int x1), (2, .int x2)] [] h (FM g 194 194 (ax_QI Q))
set_option maxRecDepth 100000 in
set_option maxHeartbeats 4000000 in
theorem s_X12_state_0 {l : Launch} {g : AG} {h : AH} {x0 : Nat} {x1 : Int32} {x2 : Int32}  {Q : Int32 → AH → Prop} (hb : (Is 194 x0 11) ∧ ( ∀ h2 : AH, h2 = ax_setI h x0 0 0 → ( C_X12_isApp l g h2 x0 x1 (fun r6 h5 => ( ((¬ r6 = 0 → ((Is 194 (h5.2.2 x0 7) 21) ∧ ( (vp_in x1 (ax_s (h5.2.2 x0 7)).2) ∧ ( (Is 194 (h5.2.2 x0 8) 21) ∧ ( (vp_in x1 (ax_s (h5.2.2 x0 8)).2) ∧ ( C_X12_unpack l g h5 x0 (h5.2.1 (h5.2.2 x0 7) x1.toNatClampNeg) (h5.2.1 (h5.2.2 x0 8) x1.toNatClampNeg) (fun h13 => ( ((x2 = 0 → (Q (h13.1 x0 19) h13)) ∧ (¬ x2 = 0 → (((x2 = 1 → (Q (h13.1 x0 20) h13)) ∧ (¬ x2 = 1 → (((x2 = 2 → (((h13.1 x0 20 ≤ 0 → (Q (-1) h13)) ∧ (¬ (h13.1 x0 20 ≤ 0) → ((Is 194 (h13.2.2 x0 21) 20) ∧ ( (vp_in ((h13.1 x0 20) - 1) (ax_s (h13.2.2 x0 21)).2) ∧ ( ∀ v20 : Int32, v20 = (h13.1 (h13.2.2 x0 21) ((h13.1 x0 20) - 1).toNatClampNeg) → ( Q v20 h13)))))))) ∧ (¬ x2 = 2 → (((x2 = 3 → (((h13.1 x0 20 ≤ 0 → (Q (-1) h13)) ∧ (¬ (h13.1 x0 20 ≤ 0) → ((Is 194 (h13.2.2 x0 22) 20) ∧ ( (vp_in ((h13.1 x0 20) - 1) (ax_s (h13.2.2 x0 22)).2) ∧ ( ∀ v26 : Int32, v26 = (h13.1 (h13.2.2 x0 22) ((h13.1 x0 20) - 1).toNatClampNeg) → ( Q v26 h13)))))))) ∧ (¬ x2 = 3 → (((x2 = 4 → ((Is 194 (h13.2.2 x0 4) 25) ∧ ( (vp_in x1 (ax_s (h13.2.2 x0 4)).2) ∧ ( (Is 194 (h13.2.2 (h13.2.2 x0 4) x1.toNatClampNeg) 9) ∧ ( C_X12_possible l g h13 x0 (h13.2.2 (h13.2.2 x0 4) x1.toNatClampNeg) (fun r34 h33 => ( C_X12_bits l g h33 r34 (fun r37 h36 => ( Q r37 h36))))))))) ∧ (¬ x2 = 4 → (Q (-1) h13))))))))))))))))))))))) ∧ (r6 = 0 → (Q (-1) h5)))))))) : L_X12_state_0 l g h x0 x1 x2  Q := by
  obtain ⟨i1, hb⟩ := hb
  refine wp_aload_n 0 dX12_state_0 rfl rfl ?_
  refine wp_iconst (v := 0) dX12_state_1 (by decide) ?_
  refine wp_putI dX12_state_2 fl_X12_1 (Or.inl rfl) i1 ?_
  refine wp_topH (fun h2 e3 => ?_)
  have hb := hb h2 e3
  refine wp_aload_n 0 dX12_state_5 rfl rfl ?_
  refine wp_iload_n 1 dX12_state_6 rfl rfl ?_
  refine wp_callV (as := [.int x1]) dX12_state_7 cb_X12_isApp lk_X12_340 im_X12_isApp se_X12_isApp rfl (Nat.le_of_ble_eq_true rfl) ⟨by decide, by decide⟩ ⟨Nat.le_refl _, Nat.le_refl _, Nat.le_refl _⟩ i1 rfl (by decide) hb (fun r0 h5 hb => ?_)
  obtain ⟨r6, rfl, hb⟩ := hb
  refine wp_if_ne (tgt := 15) dX12_state_10 (by decide) (fun c7 => ?_) (fun c7 => ?_)
  · have hb := hb.1 c7
    refine wp_aload_n 0 dX12_state_15 rfl rfl ?_
    refine wp_aload_n 0 dX12_state_16 rfl rfl ?_
    obtain ⟨i8, hb⟩ := hb
    refine wp_getR dX12_state_17 fl_X12_34 i1 (i8.ne (by decide)) ?_
    refine wp_iload_n 1 dX12_state_20 rfl rfl ?_
    obtain ⟨b9, hb⟩ := hb
    refine wp_laload dX12_state_21 i8 b9 ?_
    refine wp_aload_n 0 dX12_state_22 rfl rfl ?_
    obtain ⟨i10, hb⟩ := hb
    refine wp_getR dX12_state_23 fl_X12_38 i1 (i10.ne (by decide)) ?_
    refine wp_iload_n 1 dX12_state_26 rfl rfl ?_
    obtain ⟨b11, hb⟩ := hb
    refine wp_laload dX12_state_27 i10 b11 ?_
    refine wp_callV (as := [.long (h5.2.1 (h5.2.2 x0 7) x1.toNatClampNeg), .long (h5.2.1 (h5.2.2 x0 8) x1.toNatClampNeg)]) dX12_state_28 cb_X12_unpack lk_X12_377 im_X12_unpack se_X12_unpack rfl (Nat.le_of_ble_eq_true rfl) ⟨by decide, by decide⟩ ⟨Nat.le_refl _, Nat.le_refl _, Nat.le_refl _⟩ i1 rfl (by decide) hb (fun r0 h13 hb => ?_)
    obtain ⟨rfl, hb⟩ := hb
    refine wp_iload_n 2 dX12_state_31 rfl rfl ?_
    refine wp_case 0 (fun c14 => ?_) (fun c14 => ?_)
    · have hb := hb.1 c14
      refine wp_tableIn (v := 0) (tgt := 68) dX12_state_32 c14 (by decide) (by decide) rfl (by decide) ?_
      refine wp_aload_n 0 dX12_state_68 rfl rfl ?_
      refine wp_getI dX12_state_69 fl_X12_343 i1 ?_
      exact wp_iret rfl dX12_state_72 ⟨_, rfl, hb⟩
    · have hb := hb.2 c14
      refine wp_case 1 (fun c15 => ?_) (fun c15 => ?_)
      · have hb := hb.1 c15
        refine wp_tableIn (v := 1) (tgt := 73) dX12_state_32 c15 (by decide) (by decide) rfl (by decide) ?_
        refine wp_aload_n 0 dX12_state_73 rfl rfl ?_
        refine wp_getI dX12_state_74 fl_X12_346 i1 ?_
        exact wp_iret rfl dX12_state_77 ⟨_, rfl, hb⟩
      · have hb := hb.2 c15
        refine wp_case 2 (fun c16 => ?_) (fun c16 => ?_)
        · have hb := hb.1 c16
          refine wp_tableIn (v := 2) (tgt := 78) dX12_state_32 c16 (by decide) (by decide) rfl (by decide) ?_
          refine wp_aload_n 0 dX12_state_78 rfl rfl ?_
          refine wp_getI dX12_state_79 fl_X12_346 i1 ?_
          refine wp_if_le (tgt := 99) dX12_state_82 (by decide) (fun c17 => ?_) (fun c17 => ?_)
          · have hb := hb.1 c17
            refine wp_iconst (v := (-1)) dX12_state_99 (by decide) ?_
            exact wp_iret rfl dX12_state_100 ⟨_, rfl, hb⟩
          · have hb := hb.2 c17
            refine wp_aload_n 0 dX12_state_85 rfl rfl ?_
            obtain ⟨i18, hb⟩ := hb
            refine wp_getR dX12_state_86 fl_X12_52 i1 (i18.ne (by decide)) ?_
            refine wp_aload_n 0 dX12_state_89 rfl rfl ?_
            refine wp_getI dX12_state_90 fl_X12_346 i1 ?_
            refine wp_iconst (v := 1) dX12_state_93 (by decide) ?_
            refine wp_isub dX12_state_94 ?_
            obtain ⟨b19, hb⟩ := hb
            refine wp_iaload dX12_state_95 i18 b19 ?_
            refine wp_topi (fun v20 e21 => ?_)
            have hb := hb v20 e21
            refine wp_goto (tgt := 100) dX12_state_96 (by decide) ?_
            exact wp_iret rfl dX12_state_100 ⟨_, rfl, hb⟩
        · have hb := hb.2 c16
          refine wp_case 3 (fun c22 => ?_) (fun c22 => ?_)
          · have hb := hb.1 c22
            refine wp_tableIn (v := 3) (tgt := 101) dX12_state_32 c22 (by decide) (by decide) rfl (by decide) ?_
            refine wp_aload_n 0 dX12_state_101 rfl rfl ?_
            refine wp_getI dX12_state_102 fl_X12_346 i1 ?_
            refine wp_if_le (tgt := 122) dX12_state_105 (by decide) (fun c23 => ?_) (fun c23 => ?_)
            · have hb := hb.1 c23
              refine wp_iconst (v := (-1)) dX12_state_122 (by decide) ?_
              exact wp_iret rfl dX12_state_123 ⟨_, rfl, hb⟩
            · have hb := hb.2 c23
              refine wp_aload_n 0 dX12_state_108 rfl rfl ?_
              obtain ⟨i24, hb⟩ := hb
              refine wp_getR dX12_state_109 fl_X12_56 i1 (i24.ne (by decide)) ?_
              refine wp_aload_n 0 dX12_state_112 rfl rfl ?_
              refine wp_getI dX12_state_113 fl_X12_346 i1 ?_
              refine wp_iconst (v := 1) dX12_state_116 (by decide) ?_
              refine wp_isub dX12_state_117 ?_
              obtain ⟨b25, hb⟩ := hb
              refine wp_iaload dX12_state_118 i24 b25 ?_
              refine wp_topi (fun v26 e27 => ?_)
              have hb := hb v26 e27
              refine wp_goto (tgt := 123) dX12_state_119 (by decide) ?_
              exact wp_iret rfl dX12_state_123 ⟨_, rfl, hb⟩
          · have hb := hb.2 c22
            refine wp_case 4 (fun c28 => ?_) (fun c28 => ?_)
            · have hb := hb.1 c28
              refine wp_tableIn (v := 4) (tgt := 124) dX12_state_32 c28 (by decide) (by decide) rfl (by decide) ?_
              refine wp_aload_n 0 dX12_state_124 rfl rfl ?_
              refine wp_aload_n 0 dX12_state_125 rfl rfl ?_
              obtain ⟨i29, hb⟩ := hb
              refine wp_getR dX12_state_126 fl_X12_21 i1 (i29.ne (by decide)) ?_
              refine wp_iload_n 1 dX12_state_129 rfl rfl ?_
              obtain ⟨b30, hb⟩ := hb
              obtain ⟨i31, hb⟩ := hb
              refine wp_aaload25 dX12_state_130 i29 b30 (i31.ne (by decide)) ?_
              refine wp_callV (as := [.ref (h13.2.2 (h13.2.2 x0 4) x1.toNatClampNeg)]) dX12_state_131 cb_X12_possible lk_X12_381 im_X12_possible se_X12_possible rfl (Nat.le_of_ble_eq_true rfl) ⟨by decide, by decide⟩ ⟨Nat.le_refl _, Nat.le_refl _, Nat.le_refl _⟩ i1 rfl (by decide) hb (fun r0 h33 hb => ?_)
              obtain ⟨r34, rfl, hb⟩ := hb
              refine wp_callS (as := [.int r34]) dX12_state_134 cb_X12_bits lk_X12_387 st_X12_bits rfl (Nat.le_of_ble_eq_true rfl) ⟨by decide, by decide⟩ ⟨Nat.le_refl _, Nat.le_refl _, Nat.le_refl _⟩ hb (fun r0 h36 hb => ?_)
              obtain ⟨r37, rfl, hb⟩ := hb
              exact wp_iret rfl dX12_state_137 ⟨_, rfl, hb⟩
            · have hb := hb.2 c28
              refine wp_tableOut (tgt := 138) dX12_state_32 (by have zc14 := lv_neT (k := 0) (a := 0) c14 rfl; have zc15 := lv_neT (k := 1) (a := 1) c15 rfl; have zc16 := lv_neT (k := 2) (a := 2) c16 rfl; have zc22 := lv_neT (k := 3) (a := 3) c22 rfl; have zc28 := lv_neT (k := 4) (a := 4) c28 rfl; omega) (by decide) ?_
              refine wp_iconst (v := (-1)) dX12_state_138 (by decide) ?_
              exact wp_iret rfl dX12_state_139 ⟨_, rfl, hb⟩
  · have hb := hb.2 c7
    refine wp_iconst (v := (-1)) dX12_state_13 (by decide) ?_
    exact wp_iret rfl dX12_state_14 ⟨_, rfl, hb⟩
theorem c_X12_state {l : Launch} {g : AG} {h : AH} {x0 : Nat} {x1 : Int32} {x2 : Int32}  {Q : Int32 → AH → Prop} (hb : L_X12_state_0 l g h x0 x1 x2  Q) : C_X12_state l g h x0 x1 x2  Q := ax_met rfl rfl (Nat.le_of_ble_eq_true rfl) hb
def C_X12_var (l : Launch) (g : AG) (h : AH) (x0 : Nat) (x1 : Int32) (x2 : Int32)  (Q : Int32 → AH → Prop) : Prop := Ct l g mX12_var 1 26 194 194 h [.ref x0, .int x1, .int x2] (ax_QI Q)
def L_X12_var_0 (l : Launch) (g : AG) (h : AH) (x0 : Nat) (x1 : Int32) (x2 : Int32)  (Q : Int32 → AH → Prop) : Prop := Wp l g mX12_var 1 26 194 194 194 0 [(0, .ref x0), (1, .int x1), (2, .int x2)] [] h (FM g 194 194 (ax_QI Q))
set_option maxRecDepth 100000 in
set_option maxHeartbeats 4000000 in
theorem s_X12_var_0 {l : Launch} {g : AG} {h : AH} {x0 : Nat} {x1 : Int32} {x2 : Int32}  {Q : Int32 → AH → Prop} (hb : (Is 194 x0 11) ∧ ( ∀ h2 : AH, h2 = ax_setI h x0 0 0 → ( C_X12_isApp l g h2 x0 x1 (fun r6 h5 => ( ((r6 = 0 → (Q (-1) h5)) ∧ (¬ (r6 = 0) → (((x2 < 0 → (Q (-1) h5)) ∧ (¬ (x2 < 0) → ((Is 194 (h5.2.2 x0 4) 25) ∧ ( (vp_in x1 (ax_s (h5.2.2 x0 4)).2) ∧ ( (Is 194 (h5.2.2 (h5.2.2 x0 4) x1.toNatClampNeg) 9) ∧ ( ((x2 < h5.1 (h5.2.2 (h5.2.2 x0 4) x1.toNatClampNeg) 2 → ((Is 194 (h5.2.2 x0 7) 21) ∧ ( (vp_in x1 (ax_s (h5.2.2 x0 7)).2) ∧ ( (Is 194 (h5.2.2 x0 8) 21) ∧ ( (vp_in x1 (ax_s (h5.2.2 x0 8)).2) ∧ ( C_X12_unpack l g h5 x0 (h5.2.1 (h5.2.2 x0 7) x1.toNatClampNeg) (h5.2.1 (h5.2.2 x0 8) x1.toNatClampNeg) (fun h18 => ( (Is 194 (h18.2.2 x0 23) 20) ∧ ( (vp_in x2 (ax_s (h18.2.2 x0 23)).2) ∧ ( Q (h18.1 (h18.2.2 x0 23) x2.toNatClampNeg) h18)))))))))) ∧ (¬ (x2 < h5.1 (h5.2.2 (h5.2.2 x0 4) x1.toNatClampNeg) 2) → (Q (-1) h5))))))))))))))))) : L_X12_var_0 l g h x0 x1 x2  Q := by
  obtain ⟨i1, hb⟩ := hb
  refine wp_aload_n 0 dX12_var_0 rfl rfl ?_
  refine wp_iconst (v := 0) dX12_var_1 (by decide) ?_
  refine wp_putI dX12_var_2 fl_X12_1 (Or.inl rfl) i1 ?_
  refine wp_topH (fun h2 e3 => ?_)
  have hb := hb h2 e3
  refine wp_aload_n 0 dX12_var_5 rfl rfl ?_
  refine wp_iload_n 1 dX12_var_6 rfl rfl ?_
  refine wp_callV (as := [.int x1]) dX12_var_7 cb_X12_isApp lk_X12_340 im_X12_isApp se_X12_isApp rfl (Nat.le_of_ble_eq_true rfl) ⟨by decide, by decide⟩ ⟨Nat.le_refl _, Nat.le_refl _, Nat.le_refl _⟩ i1 rfl (by decide) hb (fun r0 h5 hb => ?_)
  obtain ⟨r6, rfl, hb⟩ := hb
  refine wp_if_eq (tgt := 30) dX12_var_10 (by decide) (fun c7 => ?_) (fun c7 => ?_)
  · have hb := hb.1 c7
    refine wp_iconst (v := (-1)) dX12_var_30 (by decide) ?_
    exact wp_iret rfl dX12_var_31 ⟨_, rfl, hb⟩
  · have hb := hb.2 c7
    refine wp_iload_n 2 dX12_var_13 rfl rfl ?_
    refine wp_if_lt (tgt := 30) dX12_var_14 (by decide) (fun c8 => ?_) (fun c8 => ?_)
    · have hb := hb.1 c8
      refine wp_iconst (v := (-1)) dX12_var_30 (by decide) ?_
      exact wp_iret rfl dX12_var_31 ⟨_, rfl, hb⟩
    · have hb := hb.2 c8
      refine wp_iload_n 2 dX12_var_17 rfl rfl ?_
      refine wp_aload_n 0 dX12_var_18 rfl rfl ?_
      obtain ⟨i9, hb⟩ := hb
      refine wp_getR dX12_var_19 fl_X12_21 i1 (i9.ne (by decide)) ?_
      refine wp_iload_n 1 dX12_var_22 rfl rfl ?_
      obtain ⟨b10, hb⟩ := hb
      obtain ⟨i11, hb⟩ := hb
      refine wp_aaload25 dX12_var_23 i9 b10 (i11.ne (by decide)) ?_
      refine wp_getI dX12_var_24 fl_X12_198 i11 ?_
      refine wp_icmp_lt (tgt := 32) dX12_var_27 (by decide) (fun c12 => ?_) (fun c12 => ?_)
      · have hb := hb.1 c12
        refine wp_aload_n 0 dX12_var_32 rfl rfl ?_
        refine wp_aload_n 0 dX12_var_33 rfl rfl ?_
        obtain ⟨i13, hb⟩ := hb
        refine wp_getR dX12_var_34 fl_X12_34 i1 (i13.ne (by decide)) ?_
        refine wp_iload_n 1 dX12_var_37 rfl rfl ?_
        obtain ⟨b14, hb⟩ := hb
        refine wp_laload dX12_var_38 i13 b14 ?_
        refine wp_aload_n 0 dX12_var_39 rfl rfl ?_
        obtain ⟨i15, hb⟩ := hb
        refine wp_getR dX12_var_40 fl_X12_38 i1 (i15.ne (by decide)) ?_
        refine wp_iload_n 1 dX12_var_43 rfl rfl ?_
        obtain ⟨b16, hb⟩ := hb
        refine wp_laload dX12_var_44 i15 b16 ?_
        refine wp_callV (as := [.long (h5.2.1 (h5.2.2 x0 7) x1.toNatClampNeg), .long (h5.2.1 (h5.2.2 x0 8) x1.toNatClampNeg)]) dX12_var_45 cb_X12_unpack lk_X12_377 im_X12_unpack se_X12_unpack rfl (Nat.le_of_ble_eq_true rfl) ⟨by decide, by decide⟩ ⟨Nat.le_refl _, Nat.le_refl _, Nat.le_refl _⟩ i1 rfl (by decide) hb (fun r0 h18 hb => ?_)
        obtain ⟨rfl, hb⟩ := hb
        refine wp_aload_n 0 dX12_var_48 rfl rfl ?_
        obtain ⟨i19, hb⟩ := hb
        refine wp_getR dX12_var_49 fl_X12_59 i1 (i19.ne (by decide)) ?_
        refine wp_iload_n 2 dX12_var_52 rfl rfl ?_
        obtain ⟨b20, hb⟩ := hb
        refine wp_iaload dX12_var_53 i19 b20 ?_
        exact wp_iret rfl dX12_var_54 ⟨_, rfl, hb⟩
      · have hb := hb.2 c12
        refine wp_iconst (v := (-1)) dX12_var_30 (by decide) ?_
        exact wp_iret rfl dX12_var_31 ⟨_, rfl, hb⟩
theorem c_X12_var {l : Launch} {g : AG} {h : AH} {x0 : Nat} {x1 : Int32} {x2 : Int32}  {Q : Int32 → AH → Prop} (hb : L_X12_var_0 l g h x0 x1 x2  Q) : C_X12_var l g h x0 x1 x2  Q := ax_met rfl rfl (Nat.le_of_ble_eq_true rfl) hb
def C_X12_can (l : Launch) (g : AG) (h : AH) (x0 : Nat) (x1 : Int32) (x2 : Int32)  (Q : Int32 → AH → Prop) : Prop := Ct l g mX12_can 2 48 194 194 h [.ref x0, .int x1, .int x2] (ax_QI Q)
def L_X12_can_0 (l : Launch) (g : AG) (h : AH) (x0 : Nat) (x1 : Int32) (x2 : Int32)  (Q : Int32 → AH → Prop) : Prop := Wp l g mX12_can 2 48 194 194 194 0 [(0, .ref x0), (1, .int x1), (2, .int x2)] [] h (FM g 194 194 (ax_QI Q))
set_option maxRecDepth 100000 in
set_option maxHeartbeats 4000000 in
theorem s_X12_can_0 {l : Launch} {g : AG} {h : AH} {x0 : Nat} {x1 : Int32} {x2 : Int32}  {Q : Int32 → AH → Prop} (hb : (Is 194 x0 11) ∧ ( ∀ h2 : AH, h2 = ax_setI h x0 0 0 → ( C_X12_isApp l g h2 x0 x1 (fun r6 h5 => ( ((r6 = 0 → (Q (-1) h5)) ∧ (¬ (r6 = 0) → (C_X12_isAct l g h5 x2 (fun r10 h9 => ( ((¬ r10 = 0 → ((Is 194 (h9.2.2 x0 7) 21) ∧ ( (vp_in x1 (ax_s (h9.2.2 x0 7)).2) ∧ ( (Is 194 (h9.2.2 x0 8) 21) ∧ ( (vp_in x1 (ax_s (h9.2.2 x0 8)).2) ∧ ( C_X12_unpack l g h9 x0 (h9.2.1 (h9.2.2 x0 7) x1.toNatClampNeg) (h9.2.1 (h9.2.2 x0 8) x1.toNatClampNeg) (fun h17 => ( (Is 194 (h17.2.2 x0 4) 25) ∧ ( (vp_in x1 (ax_s (h17.2.2 x0 4)).2) ∧ ( (Is 194 (h17.2.2 (h17.2.2 x0 4) x1.toNatClampNeg) 9) ∧ ( C_X12_possible l g h17 x0 (h17.2.2 (h17.2.2 x0 4) x1.toNatClampNeg) (fun r23 h22 => ( Q ((jishr r23 x2) &&& 1) h22))))))))))))) ∧ (r10 = 0 → (Q (-1) h9))))))))))))) : L_X12_can_0 l g h x0 x1 x2  Q := by
  obtain ⟨i1, hb⟩ := hb
  refine wp_aload_n 0 dX12_can_0 rfl rfl ?_
  refine wp_iconst (v := 0) dX12_can_1 (by decide) ?_
  refine wp_putI dX12_can_2 fl_X12_1 (Or.inl rfl) i1 ?_
  refine wp_topH (fun h2 e3 => ?_)
  have hb := hb h2 e3
  refine wp_aload_n 0 dX12_can_5 rfl rfl ?_
  refine wp_iload_n 1 dX12_can_6 rfl rfl ?_
  refine wp_callV (as := [.int x1]) dX12_can_7 cb_X12_isApp lk_X12_340 im_X12_isApp se_X12_isApp rfl (Nat.le_of_ble_eq_true rfl) ⟨by decide, by decide⟩ ⟨Nat.le_refl _, Nat.le_refl _, Nat.le_refl _⟩ i1 rfl (by decide) hb (fun r0 h5 hb => ?_)
  obtain ⟨r6, rfl, hb⟩ := hb
  refine wp_if_eq (tgt := 20) dX12_can_10 (by decide) (fun c7 => ?_) (fun c7 => ?_)
  · have hb := hb.1 c7
    refine wp_iconst (v := (-1)) dX12_can_20 (by decide) ?_
    exact wp_iret rfl dX12_can_21 ⟨_, rfl, hb⟩
  · have hb := hb.2 c7
    refine wp_iload_n 2 dX12_can_13 rfl rfl ?_
    refine wp_callS (as := [.int x2]) dX12_can_14 cb_X12_isAct lk_X12_374 st_X12_isAct rfl (Nat.le_of_ble_eq_true rfl) ⟨by decide, by decide⟩ ⟨Nat.le_refl _, Nat.le_refl _, Nat.le_refl _⟩ hb (fun r0 h9 hb => ?_)
    obtain ⟨r10, rfl, hb⟩ := hb
    refine wp_if_ne (tgt := 22) dX12_can_17 (by decide) (fun c11 => ?_) (fun c11 => ?_)
    · have hb := hb.1 c11
      refine wp_aload_n 0 dX12_can_22 rfl rfl ?_
      refine wp_aload_n 0 dX12_can_23 rfl rfl ?_
      obtain ⟨i12, hb⟩ := hb
      refine wp_getR dX12_can_24 fl_X12_34 i1 (i12.ne (by decide)) ?_
      refine wp_iload_n 1 dX12_can_27 rfl rfl ?_
      obtain ⟨b13, hb⟩ := hb
      refine wp_laload dX12_can_28 i12 b13 ?_
      refine wp_aload_n 0 dX12_can_29 rfl rfl ?_
      obtain ⟨i14, hb⟩ := hb
      refine wp_getR dX12_can_30 fl_X12_38 i1 (i14.ne (by decide)) ?_
      refine wp_iload_n 1 dX12_can_33 rfl rfl ?_
      obtain ⟨b15, hb⟩ := hb
      refine wp_laload dX12_can_34 i14 b15 ?_
      refine wp_callV (as := [.long (h9.2.1 (h9.2.2 x0 7) x1.toNatClampNeg), .long (h9.2.1 (h9.2.2 x0 8) x1.toNatClampNeg)]) dX12_can_35 cb_X12_unpack lk_X12_377 im_X12_unpack se_X12_unpack rfl (Nat.le_of_ble_eq_true rfl) ⟨by decide, by decide⟩ ⟨Nat.le_refl _, Nat.le_refl _, Nat.le_refl _⟩ i1 rfl (by decide) hb (fun r0 h17 hb => ?_)
      obtain ⟨rfl, hb⟩ := hb
      refine wp_aload_n 0 dX12_can_38 rfl rfl ?_
      refine wp_aload_n 0 dX12_can_39 rfl rfl ?_
      obtain ⟨i18, hb⟩ := hb
      refine wp_getR dX12_can_40 fl_X12_21 i1 (i18.ne (by decide)) ?_
      refine wp_iload_n 1 dX12_can_43 rfl rfl ?_
      obtain ⟨b19, hb⟩ := hb
      obtain ⟨i20, hb⟩ := hb
      refine wp_aaload25 dX12_can_44 i18 b19 (i20.ne (by decide)) ?_
      refine wp_callV (as := [.ref (h17.2.2 (h17.2.2 x0 4) x1.toNatClampNeg)]) dX12_can_45 cb_X12_possible lk_X12_381 im_X12_possible se_X12_possible rfl (Nat.le_of_ble_eq_true rfl) ⟨by decide, by decide⟩ ⟨Nat.le_refl _, Nat.le_refl _, Nat.le_refl _⟩ i1 rfl (by decide) hb (fun r0 h22 hb => ?_)
      obtain ⟨r23, rfl, hb⟩ := hb
      refine wp_iload_n 2 dX12_can_48 rfl rfl ?_
      refine wp_ishr dX12_can_49 ?_
      refine wp_iconst (v := 1) dX12_can_50 (by decide) ?_
      refine wp_iand dX12_can_51 ?_
      exact wp_iret rfl dX12_can_52 ⟨_, rfl, hb⟩
    · have hb := hb.2 c11
      refine wp_iconst (v := (-1)) dX12_can_20 (by decide) ?_
      exact wp_iret rfl dX12_can_21 ⟨_, rfl, hb⟩
theorem c_X12_can {l : Launch} {g : AG} {h : AH} {x0 : Nat} {x1 : Int32} {x2 : Int32}  {Q : Int32 → AH → Prop} (hb : L_X12_can_0 l g h x0 x1 x2  Q) : C_X12_can l g h x0 x1 x2  Q := ax_met rfl rfl (Nat.le_of_ble_eq_true rfl) hb
def C_X12_begin (l : Launch) (g : AG) (h : AH) (x0 : Nat) (x1 : Int32)  (Q : Int32 → AH → Prop) : Prop := Ct l g mX12_begin 1 23 194 194 h [.ref x0, .int x1] (ax_QI Q)
def L_X12_begin_0 (l : Launch) (g : AG) (h : AH) (x0 : Nat) (x1 : Int32)  (Q : Int32 → AH → Prop) : Prop := Wp l g mX12_begin 1 23 194 194 194 0 [(0, .ref x0), (1, .int x1)] [] h (FM g 194 194 (ax_QI Q))
def L_X12_begin_19 (l : Launch) (g : AG) (h : AH) (x0 : Nat) (x1 : Int32) (s0 : Int32) (s1 : Nat) (Q : Int32 → AH → Prop) : Prop := Wp l g mX12_begin 1 23 194 194 194 19 [(0, .ref x0), (1, .int x1)] [.int s0, .ref s1] h (FM g 194 194 (ax_QI Q))
set_option maxRecDepth 100000 in
set_option maxHeartbeats 4000000 in
theorem s_X12_begin_0 {l : Launch} {g : AG} {h : AH} {x0 : Nat} {x1 : Int32}  {Q : Int32 → AH → Prop} (hb : (Is 194 x0 11) ∧ ( ∀ h2 : AH, h2 = ax_setI h x0 0 0 → ( C_X12_isApp l g h2 x0 x1 (fun r6 h5 => ( ((r6 = 0 → (L_X12_begin_19 l g h5 x0 x1 1 x0 Q)) ∧ (¬ (r6 = 0) → (L_X12_begin_19 l g h5 x0 x1 0 x0 Q)))))))) : L_X12_begin_0 l g h x0 x1  Q := by
  obtain ⟨i1, hb⟩ := hb
  refine wp_aload_n 0 dX12_begin_0 rfl rfl ?_
  refine wp_iconst (v := 0) dX12_begin_1 (by decide) ?_
  refine wp_putI dX12_begin_2 fl_X12_1 (Or.inl rfl) i1 ?_
  refine wp_topH (fun h2 e3 => ?_)
  have hb := hb h2 e3
  refine wp_aload_n 0 dX12_begin_5 rfl rfl ?_
  refine wp_aload_n 0 dX12_begin_6 rfl rfl ?_
  refine wp_iload_n 1 dX12_begin_7 rfl rfl ?_
  refine wp_callV (as := [.int x1]) dX12_begin_8 cb_X12_isApp lk_X12_340 im_X12_isApp se_X12_isApp rfl (Nat.le_of_ble_eq_true rfl) ⟨by decide, by decide⟩ ⟨Nat.le_refl _, Nat.le_refl _, Nat.le_refl _⟩ i1 rfl (by decide) hb (fun r0 h5 hb => ?_)
  obtain ⟨r6, rfl, hb⟩ := hb
  refine wp_if_eq (tgt := 18) dX12_begin_11 (by decide) (fun c7 => ?_) (fun c7 => ?_)
  · have hb := hb.1 c7
    refine wp_iconst (v := 1) dX12_begin_18 (by decide) ?_
    exact hb
  · have hb := hb.2 c7
    refine wp_iconst (v := 0) dX12_begin_14 (by decide) ?_
    refine wp_goto (tgt := 19) dX12_begin_15 (by decide) ?_
    exact hb
set_option maxRecDepth 100000 in
set_option maxHeartbeats 4000000 in
theorem s_X12_begin_19 {l : Launch} {g : AG} {h : AH} {x0 : Nat} {x1 : Int32} {s0 : Int32} {s1 : Nat} {Q : Int32 → AH → Prop} (hb : (Is 194 s1 11) ∧ ( ∀ h9 : AH, h9 = ax_setI h s1 1 s0 → ( (Is 194 x0 11) ∧ ( ∀ h12 : AH, h12 = ax_setI h9 x0 2 (-1) → ( ((h12.1 x0 1 ≤ 0 → (C_X12_begins l g h12 x0 (fun h16 => ( (Is 194 (h16.2.2 x0 7) 21) ∧ ( C_X12_packed l g h16 x0 (fun r20 h19 => ( (vp_in x1 (ax_s (h16.2.2 x0 7)).2) ∧ ( ∀ h22 : AH, h22 = ax_setL h19 (h16.2.2 x0 7) x1.toNatClampNeg r20 → ( (Is 194 (h22.2.2 x0 8) 21) ∧ ( C_X12_packedVars l g h22 x0 (fun r27 h26 => ( (vp_in x1 (ax_s (h22.2.2 x0 8)).2) ∧ ( ∀ h29 : AH, h29 = ax_setL h26 (h22.2.2 x0 8) x1.toNatClampNeg r27 → ( Q 1 h29)))))))))))))) ∧ (¬ (h12.1 x0 1 ≤ 0) → (Q 0 h12)))))))) : L_X12_begin_19 l g h x0 x1 s0 s1 Q := by
  obtain ⟨i8, hb⟩ := hb
  refine wp_putI dX12_begin_19 fl_X12_7 (Or.inl rfl) i8 ?_
  refine wp_topH (fun h9 e10 => ?_)
  have hb := hb h9 e10
  obtain ⟨i11, hb⟩ := hb
  refine wp_aload_n 0 dX12_begin_22 rfl rfl ?_
  refine wp_iconst (v := (-1)) dX12_begin_23 (by decide) ?_
  refine wp_putI dX12_begin_24 fl_X12_10 (Or.inl rfl) i11 ?_
  refine wp_topH (fun h12 e13 => ?_)
  have hb := hb h12 e13
  refine wp_aload_n 0 dX12_begin_27 rfl rfl ?_
  refine wp_getI dX12_begin_28 fl_X12_7 i11 ?_
  refine wp_if_le (tgt := 36) dX12_begin_31 (by decide) (fun c14 => ?_) (fun c14 => ?_)
  · have hb := hb.1 c14
    refine wp_aload_n 0 dX12_begin_36 rfl rfl ?_
    refine wp_callV (as := []) dX12_begin_37 cb_X12_begins lk_X12_324 im_X12_begins se_X12_begins rfl (Nat.le_of_ble_eq_true rfl) ⟨by decide, by decide⟩ ⟨Nat.le_refl _, Nat.le_refl _, Nat.le_refl _⟩ i11 rfl (by decide) hb (fun r0 h16 hb => ?_)
    obtain ⟨rfl, hb⟩ := hb
    refine wp_aload_n 0 dX12_begin_40 rfl rfl ?_
    obtain ⟨i17, hb⟩ := hb
    refine wp_getR dX12_begin_41 fl_X12_34 i11 (i17.ne (by decide)) ?_
    refine wp_iload_n 1 dX12_begin_44 rfl rfl ?_
    refine wp_aload_n 0 dX12_begin_45 rfl rfl ?_
    refine wp_callV (as := []) dX12_begin_46 cb_X12_packed lk_X12_327 im_X12_packed se_X12_packed rfl (Nat.le_of_ble_eq_true rfl) ⟨by decide, by decide⟩ ⟨Nat.le_refl _, Nat.le_refl _, Nat.le_refl _⟩ i11 rfl (by decide) hb (fun r0 h19 hb => ?_)
    obtain ⟨r20, rfl, hb⟩ := hb
    obtain ⟨b21, hb⟩ := hb
    refine wp_lastore dX12_begin_49 i17 b21 ?_
    refine wp_topH (fun h22 e23 => ?_)
    have hb := hb h22 e23
    refine wp_aload_n 0 dX12_begin_50 rfl rfl ?_
    obtain ⟨i24, hb⟩ := hb
    refine wp_getR dX12_begin_51 fl_X12_38 i11 (i24.ne (by decide)) ?_
    refine wp_iload_n 1 dX12_begin_54 rfl rfl ?_
    refine wp_aload_n 0 dX12_begin_55 rfl rfl ?_
    refine wp_callV (as := []) dX12_begin_56 cb_X12_packedVars lk_X12_331 im_X12_packedVars se_X12_packedVars rfl (Nat.le_of_ble_eq_true rfl) ⟨by decide, by decide⟩ ⟨Nat.le_refl _, Nat.le_refl _, Nat.le_refl _⟩ i11 rfl (by decide) hb (fun r0 h26 hb => ?_)
    obtain ⟨r27, rfl, hb⟩ := hb
    obtain ⟨b28, hb⟩ := hb
    refine wp_lastore dX12_begin_59 i24 b28 ?_
    refine wp_topH (fun h29 e30 => ?_)
    have hb := hb h29 e30
    refine wp_iconst (v := 1) dX12_begin_60 (by decide) ?_
    exact wp_zret rfl dX12_begin_61 (Or.inr rfl) ⟨_, rfl, hb⟩
  · have hb := hb.2 c14
    refine wp_iconst (v := 0) dX12_begin_34 (by decide) ?_
    exact wp_zret rfl dX12_begin_35 (Or.inl rfl) ⟨_, rfl, hb⟩
theorem c_X12_begin {l : Launch} {g : AG} {h : AH} {x0 : Nat} {x1 : Int32}  {Q : Int32 → AH → Prop} (hb : L_X12_begin_0 l g h x0 x1  Q) : C_X12_begin l g h x0 x1  Q := ax_met rfl rfl (Nat.le_of_ble_eq_true rfl) hb
def C_X12_stateOf (l : Launch) (g : AG) (h : AH) (x0 : Nat) (x1 : Int64) (x3 : Int64)  (Q : Int32 → AH → Prop) : Prop := Ct l g mX12_stateOf 0 0 194 194 h [.ref x0, .long x1, .long x3] (ax_QI Q)
def L_X12_stateOf_0 (l : Launch) (g : AG) (h : AH) (x0 : Nat) (x1 : Int64) (x3 : Int64)  (Q : Int32 → AH → Prop) : Prop := Wp l g mX12_stateOf 0 0 194 194 194 0 [(0, .ref x0), (1, .long x1), (3, .long x3)] [] h (FM g 194 194 (ax_QI Q))
def L_X12_stateOf_3 (l : Launch) (g : AG) (h : AH) (x0 : Nat) (x1 : Int64) (x3 : Int64) (x5 : Int32)  (Q : Int32 → AH → Prop) : Prop := Wp l g mX12_stateOf 0 0 194 194 194 3 [(0, .ref x0), (1, .long x1), (3, .long x3), (5, .int x5)] [] h (FM g 194 194 (ax_QI Q))
def L_X12_stateOf_42 (l : Launch) (g : AG) (h : AH) (x0 : Nat) (x5 : Int32)  (Q : Int32 → AH → Prop) : Prop := Wp l g mX12_stateOf 0 0 194 194 194 42 [(0, .ref x0), (5, .int x5)] [] h (FM g 194 194 (ax_QI Q))
set_option maxRecDepth 100000 in
set_option maxHeartbeats 4000000 in
theorem s_X12_stateOf_0 {l : Launch} {g : AG} {h : AH} {x0 : Nat} {x1 : Int64} {x3 : Int64}  {Q : Int32 → AH → Prop} (hb : L_X12_stateOf_3 l g h x0 x1 x3 0  Q) : L_X12_stateOf_0 l g h x0 x1 x3  Q := by
  refine wp_iconst (v := 0) dX12_stateOf_0 (by decide) ?_
  refine wp_istore (lv2 := [(5, .int 0), (0, .ref x0), (1, .long x1), (3, .long x3)]) dX12_stateOf_1 (by decide) rfl ?_
  exact wp_sub [1, 2, 3, 0] rfl hb
set_option maxRecDepth 100000 in
set_option maxHeartbeats 4000000 in
theorem s_X12_stateOf_3 {l : Launch} {g : AG} {h : AH} {x0 : Nat} {x1 : Int64} {x3 : Int64} {x5 : Int32}  {Q : Int32 → AH → Prop} (hb : (Is 194 x0 11) ∧ ( ((h.1 x0 25 ≤ x5 → (L_X12_stateOf_42 l g h x0 x5  Q)) ∧ (¬ (h.1 x0 25 ≤ x5) → ((Is 194 (h.2.2 x0 26) 21) ∧ ( (vp_in x5 (ax_s (h.2.2 x0 26)).2) ∧ ( ((¬ lg_cmp (h.2.1 (h.2.2 x0 26) x5.toNatClampNeg) x1 = 0 → (∀ v6 : Int32, v6 = x5 + (1) → ( L_X12_stateOf_3 l g h x0 x1 x3 v6  Q))) ∧ (lg_cmp (h.2.1 (h.2.2 x0 26) x5.toNatClampNeg) x1 = 0 → ((Is 194 (h.2.2 x0 27) 21) ∧ ( (vp_in x5 (ax_s (h.2.2 x0 27)).2) ∧ ( ((lg_cmp (h.2.1 (h.2.2 x0 27) x5.toNatClampNeg) x3 = 0 → (L_X12_stateOf_42 l g h x0 x5  Q)) ∧ (¬ (lg_cmp (h.2.1 (h.2.2 x0 27) x5.toNatClampNeg) x3 = 0) → (∀ v11 : Int32, v11 = x5 + (1) → ( L_X12_stateOf_3 l g h x0 x1 x3 v11  Q)))))))))))))))) : L_X12_stateOf_3 l g h x0 x1 x3 x5  Q := by
  refine wp_iload 3 dX12_stateOf_3 rfl ?_
  obtain ⟨i1, hb⟩ := hb
  refine wp_aload_n 0 dX12_stateOf_5 rfl rfl ?_
  refine wp_getI dX12_stateOf_6 fl_X12_334 i1 ?_
  refine wp_icmp_ge (tgt := 42) dX12_stateOf_9 (by decide) (fun c2 => ?_) (fun c2 => ?_)
  · have hb := hb.1 c2
    exact wp_sub [0, 3] rfl hb
  · have hb := hb.2 c2
    refine wp_aload_n 0 dX12_stateOf_12 rfl rfl ?_
    obtain ⟨i3, hb⟩ := hb
    refine wp_getR dX12_stateOf_13 fl_X12_65 i1 (i3.ne (by decide)) ?_
    refine wp_iload 3 dX12_stateOf_16 rfl ?_
    obtain ⟨b4, hb⟩ := hb
    refine wp_laload dX12_stateOf_18 i3 b4 ?_
    refine wp_lload_n 1 dX12_stateOf_19 rfl rfl ?_
    refine wp_lcmp dX12_stateOf_20 ?_
    refine wp_if_ne (tgt := 36) dX12_stateOf_21 (by decide) (fun c5 => ?_) (fun c5 => ?_)
    · have hb := hb.1 c5
      obtain ⟨v6, e7⟩ : ∃ y : Int32, y = x5 + (1) := ⟨_, rfl⟩
      have hb := hb v6 e7
      refine wp_iinc (v := v6) (lv2 := [(5, .int v6), (0, .ref x0), (1, .long x1), (3, .long x3)]) 3 dX12_stateOf_36 rfl (by rw [e7]; rfl) (by decide) rfl ?_
      refine wp_goto (tgt := 3) dX12_stateOf_39 (by decide) ?_
      exact wp_sub [1, 2, 3, 0] rfl hb
    · have hb := hb.2 c5
      refine wp_aload_n 0 dX12_stateOf_24 rfl rfl ?_
      obtain ⟨i8, hb⟩ := hb
      refine wp_getR dX12_stateOf_25 fl_X12_68 i1 (i8.ne (by decide)) ?_
      refine wp_iload 3 dX12_stateOf_28 rfl ?_
      obtain ⟨b9, hb⟩ := hb
      refine wp_laload dX12_stateOf_30 i8 b9 ?_
      refine wp_lload_n 2 dX12_stateOf_31 rfl rfl ?_
      refine wp_lcmp dX12_stateOf_32 ?_
      refine wp_if_eq (tgt := 42) dX12_stateOf_33 (by decide) (fun c10 => ?_) (fun c10 => ?_)
      · have hb := hb.1 c10
        exact wp_sub [0, 3] rfl hb
      · have hb := hb.2 c10
        obtain ⟨v11, e12⟩ : ∃ y : Int32, y = x5 + (1) := ⟨_, rfl⟩
        have hb := hb v11 e12
        refine wp_iinc (v := v11) (lv2 := [(5, .int v11), (0, .ref x0), (1, .long x1), (3, .long x3)]) 3 dX12_stateOf_36 rfl (by rw [e12]; rfl) (by decide) rfl ?_
        refine wp_goto (tgt := 3) dX12_stateOf_39 (by decide) ?_
        exact wp_sub [1, 2, 3, 0] rfl hb
set_option maxRecDepth 100000 in
set_option maxHeartbeats 4000000 in
theorem s_X12_stateOf_42 {l : Launch} {g : AG} {h : AH} {x0 : Nat} {x5 : Int32}  {Q : Int32 → AH → Prop} (hb : (Is 194 x0 11) ∧ ( ((h.1 x0 25 ≤ x5 → (Q (-1) h)) ∧ (¬ (h.1 x0 25 ≤ x5) → (Q x5 h))))) : L_X12_stateOf_42 l g h x0 x5  Q := by
  refine wp_iload 1 dX12_stateOf_42 rfl ?_
  obtain ⟨i13, hb⟩ := hb
  refine wp_aload_n 0 dX12_stateOf_44 rfl rfl ?_
  refine wp_getI dX12_stateOf_45 fl_X12_334 i13 ?_
  refine wp_icmp_ge (tgt := 56) dX12_stateOf_48 (by decide) (fun c14 => ?_) (fun c14 => ?_)
  · have hb := hb.1 c14
    refine wp_iconst (v := (-1)) dX12_stateOf_56 (by decide) ?_
    exact wp_iret rfl dX12_stateOf_57 ⟨_, rfl, hb⟩
  · have hb := hb.2 c14
    refine wp_iload 1 dX12_stateOf_51 rfl ?_
    refine wp_goto (tgt := 57) dX12_stateOf_53 (by decide) ?_
    exact wp_iret rfl dX12_stateOf_57 ⟨_, rfl, hb⟩
theorem c_X12_stateOf {l : Launch} {g : AG} {h : AH} {x0 : Nat} {x1 : Int64} {x3 : Int64}  {Q : Int32 → AH → Prop} (hb : L_X12_stateOf_0 l g h x0 x1 x3  Q) : C_X12_stateOf l g h x0 x1 x3  Q := ax_met rfl rfl (Nat.le_of_ble_eq_true rfl) hb
def C_X12_meets (l : Launch) (g : AG) (h : AH) (x0 : Nat) (x1 : Int32) (x2 : Int32)  (Q : AH → Prop) : Prop := Ct l g mX12_meets 1 23 194 194 h [.ref x0, .int x1, .int x2] (ax_QV Q)
def L_X12_meets_0 (l : Launch) (g : AG) (h : AH) (x0 : Nat) (x1 : Int32) (x2 : Int32)  (Q : AH → Prop) : Prop := Wp l g mX12_meets 1 23 194 194 194 0 [(0, .ref x0), (1, .int x1), (2, .int x2)] [] h (FM g 194 194 (ax_QV Q))
set_option maxRecDepth 100000 in
set_option maxHeartbeats 4000000 in
theorem s_X12_meets_0 {l : Launch} {g : AG} {h : AH} {x0 : Nat} {x1 : Int32} {x2 : Int32}  {Q : AH → Prop} (hb : (Is 194 x0 11) ∧ ( (Is 194 (h.2.2 x0 26) 21) ∧ ( C_X12_packed l g h x0 (fun r5 h4 => ( (vp_in (h.1 x0 25) (ax_s (h.2.2 x0 26)).2) ∧ ( ∀ h7 : AH, h7 = ax_setL h4 (h.2.2 x0 26) (h.1 x0 25).toNatClampNeg r5 → ( (Is 194 (h7.2.2 x0 27) 21) ∧ ( C_X12_packedVars l g h7 x0 (fun r12 h11 => ( (vp_in (h7.1 x0 25) (ax_s (h7.2.2 x0 27)).2) ∧ ( ∀ h14 : AH, h14 = ax_setL h11 (h7.2.2 x0 27) (h7.1 x0 25).toNatClampNeg r12 → ( (Is 194 (h14.2.2 x0 28) 20) ∧ ( (vp_in (h14.1 x0 25) (ax_s (h14.2.2 x0 28)).2) ∧ ( ∀ h18 : AH, h18 = ax_setI h14 (h14.2.2 x0 28) (h14.1 x0 25).toNatClampNeg x1 → ( (Is 194 (h18.2.2 x0 29) 20) ∧ ( (vp_in (h18.1 x0 25) (ax_s (h18.2.2 x0 29)).2) ∧ ( ∀ h22 : AH, h22 = ax_setI h18 (h18.2.2 x0 29) (h18.1 x0 25).toNatClampNeg x2 → ( (Is 194 (h22.2.2 x0 30) 20) ∧ ( ((¬ x1 = (-1) → ((Is 194 (h22.2.2 x0 30) 20) ∧ ( (vp_in x1 (ax_s (h22.2.2 x0 30)).2) ∧ ( (vp_in (h22.1 x0 25) (ax_s (h22.2.2 x0 30)).2) ∧ ( ∀ h29 : AH, h29 = ax_setI h22 (h22.2.2 x0 30) (h22.1 x0 25).toNatClampNeg ((h22.1 (h22.2.2 x0 30) x1.toNatClampNeg) + 1) → ( ∀ h31 : AH, h31 = ax_setI h29 x0 25 ((h29.1 x0 25) + 1) → ( Q h31))))))) ∧ (x1 = (-1) → ((vp_in (h22.1 x0 25) (ax_s (h22.2.2 x0 30)).2) ∧ ( ∀ h34 : AH, h34 = ax_setI h22 (h22.2.2 x0 30) (h22.1 x0 25).toNatClampNeg 0 → ( ∀ h36 : AH, h36 = ax_setI h34 x0 25 ((h34.1 x0 25) + 1) → ( Q h36))))))))))))))))))))))))) : L_X12_meets_0 l g h x0 x1 x2  Q := by
  obtain ⟨i1, hb⟩ := hb
  refine wp_aload_n 0 dX12_meets_0 rfl rfl ?_
  obtain ⟨i2, hb⟩ := hb
  refine wp_getR dX12_meets_1 fl_X12_65 i1 (i2.ne (by decide)) ?_
  refine wp_aload_n 0 dX12_meets_4 rfl rfl ?_
  refine wp_getI dX12_meets_5 fl_X12_334 i1 ?_
  refine wp_aload_n 0 dX12_meets_8 rfl rfl ?_
  refine wp_callV (as := []) dX12_meets_9 cb_X12_packed lk_X12_327 im_X12_packed se_X12_packed rfl (Nat.le_of_ble_eq_true rfl) ⟨by decide, by decide⟩ ⟨Nat.le_refl _, Nat.le_refl _, Nat.le_refl _⟩ i1 rfl (by decide) hb (fun r0 h4 hb => ?_)
  obtain ⟨r5, rfl, hb⟩ := hb
  obtain ⟨b6, hb⟩ := hb
  refine wp_lastore dX12_meets_12 i2 b6 ?_
  refine wp_topH (fun h7 e8 => ?_)
  have hb := hb h7 e8
  refine wp_aload_n 0 dX12_meets_13 rfl rfl ?_
  obtain ⟨i9, hb⟩ := hb
  refine wp_getR dX12_meets_14 fl_X12_68 i1 (i9.ne (by decide)) ?_
  refine wp_aload_n 0 dX12_meets_17 rfl rfl ?_
  refine wp_getI dX12_meets_18 fl_X12_334 i1 ?_
  refine wp_aload_n 0 dX12_meets_21 rfl rfl ?_
  refine wp_callV (as := []) dX12_meets_22 cb_X12_packedVars lk_X12_331 im_X12_packedVars se_X12_packedVars rfl (Nat.le_of_ble_eq_true rfl) ⟨by decide, by decide⟩ ⟨Nat.le_refl _, Nat.le_refl _, Nat.le_refl _⟩ i1 rfl (by decide) hb (fun r0 h11 hb => ?_)
  obtain ⟨r12, rfl, hb⟩ := hb
  obtain ⟨b13, hb⟩ := hb
  refine wp_lastore dX12_meets_25 i9 b13 ?_
  refine wp_topH (fun h14 e15 => ?_)
  have hb := hb h14 e15
  refine wp_aload_n 0 dX12_meets_26 rfl rfl ?_
  obtain ⟨i16, hb⟩ := hb
  refine wp_getR dX12_meets_27 fl_X12_71 i1 (i16.ne (by decide)) ?_
  refine wp_aload_n 0 dX12_meets_30 rfl rfl ?_
  refine wp_getI dX12_meets_31 fl_X12_334 i1 ?_
  refine wp_iload_n 1 dX12_meets_34 rfl rfl ?_
  obtain ⟨b17, hb⟩ := hb
  refine wp_iastore dX12_meets_35 i16 b17 ?_
  refine wp_topH (fun h18 e19 => ?_)
  have hb := hb h18 e19
  refine wp_aload_n 0 dX12_meets_36 rfl rfl ?_
  obtain ⟨i20, hb⟩ := hb
  refine wp_getR dX12_meets_37 fl_X12_74 i1 (i20.ne (by decide)) ?_
  refine wp_aload_n 0 dX12_meets_40 rfl rfl ?_
  refine wp_getI dX12_meets_41 fl_X12_334 i1 ?_
  refine wp_iload_n 2 dX12_meets_44 rfl rfl ?_
  obtain ⟨b21, hb⟩ := hb
  refine wp_iastore dX12_meets_45 i20 b21 ?_
  refine wp_topH (fun h22 e23 => ?_)
  have hb := hb h22 e23
  refine wp_aload_n 0 dX12_meets_46 rfl rfl ?_
  obtain ⟨i24, hb⟩ := hb
  refine wp_getR dX12_meets_47 fl_X12_77 i1 (i24.ne (by decide)) ?_
  refine wp_aload_n 0 dX12_meets_50 rfl rfl ?_
  refine wp_getI dX12_meets_51 fl_X12_334 i1 ?_
  refine wp_iload_n 1 dX12_meets_54 rfl rfl ?_
  refine wp_iconst (v := (-1)) dX12_meets_55 (by decide) ?_
  refine wp_icmp_ne (tgt := 63) dX12_meets_56 (by decide) (fun c25 => ?_) (fun c25 => ?_)
  · have hb := hb.1 c25
    refine wp_aload_n 0 dX12_meets_63 rfl rfl ?_
    obtain ⟨i26, hb⟩ := hb
    refine wp_getR dX12_meets_64 fl_X12_77 i1 (i26.ne (by decide)) ?_
    refine wp_iload_n 1 dX12_meets_67 rfl rfl ?_
    obtain ⟨b27, hb⟩ := hb
    refine wp_iaload dX12_meets_68 i26 b27 ?_
    refine wp_iconst (v := 1) dX12_meets_69 (by decide) ?_
    refine wp_iadd dX12_meets_70 ?_
    obtain ⟨b28, hb⟩ := hb
    refine wp_iastore dX12_meets_71 i24 b28 ?_
    refine wp_topH (fun h29 e30 => ?_)
    have hb := hb h29 e30
    refine wp_aload_n 0 dX12_meets_72 rfl rfl ?_
    refine wp_dup dX12_meets_73 rfl ?_
    refine wp_getI dX12_meets_74 fl_X12_334 i1 ?_
    refine wp_iconst (v := 1) dX12_meets_77 (by decide) ?_
    refine wp_iadd dX12_meets_78 ?_
    refine wp_putI dX12_meets_79 fl_X12_334 (Or.inl rfl) i1 ?_
    refine wp_topH (fun h31 e32 => ?_)
    have hb := hb h31 e32
    exact wp_vret rfl dX12_meets_82 ⟨rfl, hb⟩
  · have hb := hb.2 c25
    refine wp_iconst (v := 0) dX12_meets_59 (by decide) ?_
    refine wp_goto (tgt := 71) dX12_meets_60 (by decide) ?_
    obtain ⟨b33, hb⟩ := hb
    refine wp_iastore dX12_meets_71 i24 b33 ?_
    refine wp_topH (fun h34 e35 => ?_)
    have hb := hb h34 e35
    refine wp_aload_n 0 dX12_meets_72 rfl rfl ?_
    refine wp_dup dX12_meets_73 rfl ?_
    refine wp_getI dX12_meets_74 fl_X12_334 i1 ?_
    refine wp_iconst (v := 1) dX12_meets_77 (by decide) ?_
    refine wp_iadd dX12_meets_78 ?_
    refine wp_putI dX12_meets_79 fl_X12_334 (Or.inl rfl) i1 ?_
    refine wp_topH (fun h36 e37 => ?_)
    have hb := hb h36 e37
    exact wp_vret rfl dX12_meets_82 ⟨rfl, hb⟩
theorem c_X12_meets {l : Launch} {g : AG} {h : AH} {x0 : Nat} {x1 : Int32} {x2 : Int32}  {Q : AH → Prop} (hb : L_X12_meets_0 l g h x0 x1 x2  Q) : C_X12_meets l g h x0 x1 x2  Q := ax_met rfl rfl (Nat.le_of_ble_eq_true rfl) hb
def C_X12_view (l : Launch) (g : AG) (h : AH) (x0 : Nat) (x1 : Nat) (x2 : Int32)  (Q : Int64 → AH → Prop) : Prop := Ct l g mX12_view 1 27 194 194 h [.ref x0, .ref x1, .int x2] (ax_QL Q)
def L_X12_view_0 (l : Launch) (g : AG) (h : AH) (x0 : Nat) (x1 : Nat) (x2 : Int32)  (Q : Int64 → AH → Prop) : Prop := Wp l g mX12_view 1 27 194 194 194 0 [(0, .ref x0), (1, .ref x1), (2, .int x2)] [] h (FM g 194 194 (ax_QL Q))
def L_X12_view_49 (l : Launch) (g : AG) (h : AH) (x0 : Nat) (x1 : Nat) (x3 : Int32) (x4 : Int64) (x6 : Int32)  (Q : Int64 → AH → Prop) : Prop := Wp l g mX12_view 1 27 194 194 194 49 [(0, .ref x0), (1, .ref x1), (3, .int x3), (4, .long x4), (6, .int x6)] [] h (FM g 194 194 (ax_QL Q))
set_option maxRecDepth 100000 in
set_option maxHeartbeats 4000000 in
theorem s_X12_view_0 {l : Launch} {g : AG} {h : AH} {x0 : Nat} {x1 : Nat} {x2 : Int32}  {Q : Int64 → AH → Prop} (hb : (Is 194 x0 11) ∧ ( (Is 194 (h.2.2 x0 26) 21) ∧ ( (vp_in x2 (ax_s (h.2.2 x0 26)).2) ∧ ( (Is 194 (h.2.2 x0 27) 21) ∧ ( (vp_in x2 (ax_s (h.2.2 x0 27)).2) ∧ ( C_X12_unpack l g h x0 (h.2.1 (h.2.2 x0 26) x2.toNatClampNeg) (h.2.1 (h.2.2 x0 27) x2.toNatClampNeg) (fun h7 => ( ((h7.1 x0 19 ≤ 0 → ((Is 194 (h7.2.2 x0 21) 20) ∧ ( (vp_in ((h7.1 x0 20) - 1) (ax_s (h7.2.2 x0 21)).2) ∧ ( ∀ v11 : Int32, v11 = (h7.1 (h7.2.2 x0 21) ((h7.1 x0 20) - 1).toNatClampNeg) → ( ∀ v13 : Int64, v13 = v11.toInt64 → ( L_X12_view_49 l g h7 x0 x1 v11 v13 0  Q)))))) ∧ (¬ (h7.1 x0 19 ≤ 0) → (Q ((-(h7.1 x0 19)).toInt64) h7))))))))))) : L_X12_view_0 l g h x0 x1 x2  Q := by
  obtain ⟨i1, hb⟩ := hb
  refine wp_aload_n 0 dX12_view_0 rfl rfl ?_
  refine wp_aload_n 0 dX12_view_1 rfl rfl ?_
  obtain ⟨i2, hb⟩ := hb
  refine wp_getR dX12_view_2 fl_X12_65 i1 (i2.ne (by decide)) ?_
  refine wp_iload_n 2 dX12_view_5 rfl rfl ?_
  obtain ⟨b3, hb⟩ := hb
  refine wp_laload dX12_view_6 i2 b3 ?_
  refine wp_aload_n 0 dX12_view_7 rfl rfl ?_
  obtain ⟨i4, hb⟩ := hb
  refine wp_getR dX12_view_8 fl_X12_68 i1 (i4.ne (by decide)) ?_
  refine wp_iload_n 2 dX12_view_11 rfl rfl ?_
  obtain ⟨b5, hb⟩ := hb
  refine wp_laload dX12_view_12 i4 b5 ?_
  refine wp_callV (as := [.long (h.2.1 (h.2.2 x0 26) x2.toNatClampNeg), .long (h.2.1 (h.2.2 x0 27) x2.toNatClampNeg)]) dX12_view_13 cb_X12_unpack lk_X12_377 im_X12_unpack se_X12_unpack rfl (Nat.le_of_ble_eq_true rfl) ⟨by decide, by decide⟩ ⟨Nat.le_refl _, Nat.le_refl _, Nat.le_refl _⟩ i1 rfl (by decide) hb (fun r0 h7 hb => ?_)
  obtain ⟨rfl, hb⟩ := hb
  refine wp_aload_n 0 dX12_view_16 rfl rfl ?_
  refine wp_getI dX12_view_17 fl_X12_343 i1 ?_
  refine wp_if_le (tgt := 30) dX12_view_20 (by decide) (fun c8 => ?_) (fun c8 => ?_)
  · have hb := hb.1 c8
    refine wp_aload_n 0 dX12_view_30 rfl rfl ?_
    obtain ⟨i9, hb⟩ := hb
    refine wp_getR dX12_view_31 fl_X12_52 i1 (i9.ne (by decide)) ?_
    refine wp_aload_n 0 dX12_view_34 rfl rfl ?_
    refine wp_getI dX12_view_35 fl_X12_346 i1 ?_
    refine wp_iconst (v := 1) dX12_view_38 (by decide) ?_
    refine wp_isub dX12_view_39 ?_
    obtain ⟨b10, hb⟩ := hb
    refine wp_iaload dX12_view_40 i9 b10 ?_
    refine wp_topi (fun v11 e12 => ?_)
    have hb := hb v11 e12
    refine wp_istore_n (lv2 := [(3, .int v11), (0, .ref x0), (1, .ref x1), (2, .int x2)]) dX12_view_41 rfl (by decide) rfl ?_
    refine wp_iload_n 0 dX12_view_42 rfl rfl ?_
    refine wp_i2l dX12_view_43 ?_
    refine wp_topl (fun v13 e14 => ?_)
    have hb := hb v13 e14
    refine wp_lstore (lv2 := [(4, .long v13), (3, .int v11), (0, .ref x0), (1, .ref x1), (2, .int x2)]) dX12_view_44 (by decide) rfl ?_
    refine wp_iconst (v := 0) dX12_view_46 (by decide) ?_
    refine wp_istore (lv2 := [(6, .int 0), (4, .long v13), (3, .int v11), (0, .ref x0), (1, .ref x1), (2, .int x2)]) dX12_view_47 (by decide) rfl ?_
    exact wp_sub [3, 4, 2, 1, 0] rfl hb
  · have hb := hb.2 c8
    refine wp_aload_n 0 dX12_view_23 rfl rfl ?_
    refine wp_getI dX12_view_24 fl_X12_343 i1 ?_
    refine wp_ineg dX12_view_27 ?_
    refine wp_i2l dX12_view_28 ?_
    exact wp_lret rfl dX12_view_29 ⟨_, rfl, hb⟩
set_option maxRecDepth 100000 in
set_option maxHeartbeats 4000000 in
theorem s_X12_view_49 {l : Launch} {g : AG} {h : AH} {x0 : Nat} {x1 : Nat} {x3 : Int32} {x4 : Int64} {x6 : Int32}  {Q : Int64 → AH → Prop} (hb : ((6 ≤ x6 → ((Is 194 x0 11) ∧ ( (Is 194 x1 9) ∧ ( C_X12_pressed l g h x0 x1 (fun r20 h19 => ( Q ((jlshl x4 24) ||| r20.toInt64) h19)))))) ∧ (¬ (6 ≤ x6) → ((Is 194 x1 9) ∧ ( (Is 194 (h.2.2 x1 7) 20) ∧ ( (vp_in x3 (ax_s (h.2.2 x1 7)).2) ∧ ( ((h.1 (h.2.2 x1 7) x3.toNatClampNeg ≤ x6 → (∀ v25 : Int64, v25 = ((jlshl x4 4) ||| ((0 : Int32).toInt64)) → ( ∀ v27 : Int32, v27 = x6 + (1) → ( L_X12_view_49 l g h x0 x1 x3 v25 v27  Q)))) ∧ (¬ (h.1 (h.2.2 x1 7) x3.toNatClampNeg ≤ x6) → ((Is 194 x0 11) ∧ ( (Is 194 (h.2.2 x0 23) 20) ∧ ( (Is 194 (h.2.2 x1 8) 20) ∧ ( (vp_in ((6 * x3) + x6) (ax_s (h.2.2 x1 8)).2) ∧ ( (vp_in (h.1 (h.2.2 x1 8) ((6 * x3) + x6).toNatClampNeg) (ax_s (h.2.2 x0 23)).2) ∧ ( ∀ v34 : Int32, v34 = (h.1 (h.2.2 x0 23) (h.1 (h.2.2 x1 8) ((6 * x3) + x6).toNatClampNeg).toNatClampNeg) → ( ∀ v36 : Int64, v36 = ((jlshl x4 4) ||| v34.toInt64) → ( ∀ v38 : Int32, v38 = x6 + (1) → ( L_X12_view_49 l g h x0 x1 x3 v36 v38  Q)))))))))))))))))) : L_X12_view_49 l g h x0 x1 x3 x4 x6  Q := by
  refine wp_iload 4 dX12_view_49 rfl ?_
  refine wp_bipush (v := 6) dX12_view_51 (by decide) ?_
  refine wp_icmp_ge (tgt := 102) dX12_view_53 (by decide) (fun c15 => ?_) (fun c15 => ?_)
  · have hb := hb.1 c15
    refine wp_lload 3 dX12_view_102 rfl ?_
    refine wp_bipush (v := 24) dX12_view_104 (by decide) ?_
    refine wp_lshl dX12_view_106 ?_
    obtain ⟨i16, hb⟩ := hb
    refine wp_aload_n 0 dX12_view_107 rfl rfl ?_
    obtain ⟨i17, hb⟩ := hb
    refine wp_aload_n 1 dX12_view_108 rfl rfl ?_
    refine wp_callV (as := [.ref x1]) dX12_view_109 cb_X12_pressed lk_X12_354 im_X12_pressed se_X12_pressed rfl (Nat.le_of_ble_eq_true rfl) ⟨by decide, by decide⟩ ⟨Nat.le_refl _, Nat.le_refl _, Nat.le_refl _⟩ i16 rfl (by decide) hb (fun r0 h19 hb => ?_)
    obtain ⟨r20, rfl, hb⟩ := hb
    refine wp_i2l dX12_view_112 ?_
    refine wp_lor dX12_view_113 ?_
    exact wp_lret rfl dX12_view_114 ⟨_, rfl, hb⟩
  · have hb := hb.2 c15
    refine wp_lload 3 dX12_view_56 rfl ?_
    refine wp_iconst (v := 4) dX12_view_58 (by decide) ?_
    refine wp_lshl dX12_view_59 ?_
    refine wp_iload 4 dX12_view_60 rfl ?_
    obtain ⟨i21, hb⟩ := hb
    refine wp_aload_n 1 dX12_view_62 rfl rfl ?_
    obtain ⟨i22, hb⟩ := hb
    refine wp_getR dX12_view_63 fl_X12_252 i21 (i22.ne (by decide)) ?_
    refine wp_iload_n 2 dX12_view_66 rfl rfl ?_
    obtain ⟨b23, hb⟩ := hb
    refine wp_iaload dX12_view_67 i22 b23 ?_
    refine wp_icmp_ge (tgt := 91) dX12_view_68 (by decide) (fun c24 => ?_) (fun c24 => ?_)
    · have hb := hb.1 c24
      refine wp_iconst (v := 0) dX12_view_91 (by decide) ?_
      refine wp_i2l dX12_view_92 ?_
      refine wp_lor dX12_view_93 ?_
      refine wp_topl (fun v25 e26 => ?_)
      have hb := hb v25 e26
      refine wp_lstore (lv2 := [(4, .long v25), (0, .ref x0), (1, .ref x1), (3, .int x3), (6, .int x6)]) dX12_view_94 (by decide) rfl ?_
      obtain ⟨v27, e28⟩ : ∃ y : Int32, y = x6 + (1) := ⟨_, rfl⟩
      have hb := hb v27 e28
      refine wp_iinc (v := v27) (lv2 := [(6, .int v27), (4, .long v25), (0, .ref x0), (1, .ref x1), (3, .int x3)]) 4 dX12_view_96 rfl (by rw [e28]; rfl) (by decide) rfl ?_
      refine wp_goto (tgt := 49) dX12_view_99 (by decide) ?_
      exact wp_sub [2, 3, 4, 1, 0] rfl hb
    · have hb := hb.2 c24
      obtain ⟨i29, hb⟩ := hb
      refine wp_aload_n 0 dX12_view_71 rfl rfl ?_
      obtain ⟨i30, hb⟩ := hb
      refine wp_getR dX12_view_72 fl_X12_59 i29 (i30.ne (by decide)) ?_
      refine wp_aload_n 1 dX12_view_75 rfl rfl ?_
      obtain ⟨i31, hb⟩ := hb
      refine wp_getR dX12_view_76 fl_X12_257 i21 (i31.ne (by decide)) ?_
      refine wp_bipush (v := 6) dX12_view_79 (by decide) ?_
      refine wp_iload_n 2 dX12_view_81 rfl rfl ?_
      refine wp_imul dX12_view_82 ?_
      refine wp_iload 4 dX12_view_83 rfl ?_
      refine wp_iadd dX12_view_85 ?_
      obtain ⟨b32, hb⟩ := hb
      refine wp_iaload dX12_view_86 i31 b32 ?_
      obtain ⟨b33, hb⟩ := hb
      refine wp_iaload dX12_view_87 i30 b33 ?_
      refine wp_topi (fun v34 e35 => ?_)
      have hb := hb v34 e35
      refine wp_goto (tgt := 92) dX12_view_88 (by decide) ?_
      refine wp_i2l dX12_view_92 ?_
      refine wp_lor dX12_view_93 ?_
      refine wp_topl (fun v36 e37 => ?_)
      have hb := hb v36 e37
      refine wp_lstore (lv2 := [(4, .long v36), (0, .ref x0), (1, .ref x1), (3, .int x3), (6, .int x6)]) dX12_view_94 (by decide) rfl ?_
      obtain ⟨v38, e39⟩ : ∃ y : Int32, y = x6 + (1) := ⟨_, rfl⟩
      have hb := hb v38 e39
      refine wp_iinc (v := v38) (lv2 := [(6, .int v38), (4, .long v36), (0, .ref x0), (1, .ref x1), (3, .int x3)]) 4 dX12_view_96 rfl (by rw [e39]; rfl) (by decide) rfl ?_
      refine wp_goto (tgt := 49) dX12_view_99 (by decide) ?_
      exact wp_sub [2, 3, 4, 1, 0] rfl hb
theorem c_X12_view {l : Launch} {g : AG} {h : AH} {x0 : Nat} {x1 : Nat} {x2 : Int32}  {Q : Int64 → AH → Prop} (hb : L_X12_view_0 l g h x0 x1 x2  Q) : C_X12_view l g h x0 x1 x2  Q := ax_met rfl rfl (Nat.le_of_ble_eq_true rfl) hb
def C_X12_isLike (l : Launch) (g : AG) (h : AH) (x0 : Nat) (x1 : Int32) (x2 : Int32)  (Q : Int32 → AH → Prop) : Prop := Ct l g mX12_isLike 0 0 194 194 h [.ref x0, .int x1, .int x2] (ax_QI Q)
def L_X12_isLike_0 (l : Launch) (g : AG) (h : AH) (x0 : Nat) (x1 : Int32) (x2 : Int32)  (Q : Int32 → AH → Prop) : Prop := Wp l g mX12_isLike 0 0 194 194 194 0 [(0, .ref x0), (1, .int x1), (2, .int x2)] [] h (FM g 194 194 (ax_QI Q))
def L_X12_isLike_55 (l : Launch) (g : AG) (h : AH) (x0 : Nat) (x1 : Int32) (x2 : Int32) (x3 : Int32) (x4 : Int32)  (Q : Int32 → AH → Prop) : Prop := Wp l g mX12_isLike 0 0 194 194 194 55 [(0, .ref x0), (1, .int x1), (2, .int x2), (3, .int x3), (4, .int x4)] [] h (FM g 194 194 (ax_QI Q))
set_option maxRecDepth 100000 in
set_option maxHeartbeats 4000000 in
theorem s_X12_isLike_0 {l : Launch} {g : AG} {h : AH} {x0 : Nat} {x1 : Int32} {x2 : Int32}  {Q : Int32 → AH → Prop} (hb : (Is 194 x0 11) ∧ ( (Is 194 (h.2.2 x0 32) 20) ∧ ( (vp_in x1 (ax_s (h.2.2 x0 32)).2) ∧ ( (Is 194 (h.2.2 x0 32) 20) ∧ ( (vp_in x2 (ax_s (h.2.2 x0 32)).2) ∧ ( ((¬ h.1 (h.2.2 x0 32) x1.toNatClampNeg = h.1 (h.2.2 x0 32) x2.toNatClampNeg → (L_X12_isLike_55 l g h x0 x1 x2 0 0  Q)) ∧ (h.1 (h.2.2 x0 32) x1.toNatClampNeg = h.1 (h.2.2 x0 32) x2.toNatClampNeg → ((Is 194 (h.2.2 x0 37) 21) ∧ ( (vp_in x1 (ax_s (h.2.2 x0 37)).2) ∧ ( (Is 194 (h.2.2 x0 37) 21) ∧ ( (vp_in x2 (ax_s (h.2.2 x0 37)).2) ∧ ( ((¬ lg_cmp (h.2.1 (h.2.2 x0 37) x1.toNatClampNeg) (h.2.1 (h.2.2 x0 37) x2.toNatClampNeg) = 0 → (L_X12_isLike_55 l g h x0 x1 x2 0 0  Q)) ∧ (lg_cmp (h.2.1 (h.2.2 x0 37) x1.toNatClampNeg) (h.2.1 (h.2.2 x0 37) x2.toNatClampNeg) = 0 → ((Is 194 (h.2.2 x0 31) 20) ∧ ( (vp_in x1 (ax_s (h.2.2 x0 31)).2) ∧ ( (Is 194 (h.2.2 x0 31) 20) ∧ ( (vp_in x2 (ax_s (h.2.2 x0 31)).2) ∧ ( ((¬ h.1 (h.2.2 x0 31) x1.toNatClampNeg = h.1 (h.2.2 x0 31) x2.toNatClampNeg → (L_X12_isLike_55 l g h x0 x1 x2 0 0  Q)) ∧ (h.1 (h.2.2 x0 31) x1.toNatClampNeg = h.1 (h.2.2 x0 31) x2.toNatClampNeg → (L_X12_isLike_55 l g h x0 x1 x2 1 0  Q))))))))))))))))))))))) : L_X12_isLike_0 l g h x0 x1 x2  Q := by
  obtain ⟨i1, hb⟩ := hb
  refine wp_aload_n 0 dX12_isLike_0 rfl rfl ?_
  obtain ⟨i2, hb⟩ := hb
  refine wp_getR dX12_isLike_1 fl_X12_83 i1 (i2.ne (by decide)) ?_
  refine wp_iload_n 1 dX12_isLike_4 rfl rfl ?_
  obtain ⟨b3, hb⟩ := hb
  refine wp_iaload dX12_isLike_5 i2 b3 ?_
  refine wp_aload_n 0 dX12_isLike_6 rfl rfl ?_
  obtain ⟨i4, hb⟩ := hb
  refine wp_getR dX12_isLike_7 fl_X12_83 i1 (i4.ne (by decide)) ?_
  refine wp_iload_n 2 dX12_isLike_10 rfl rfl ?_
  obtain ⟨b5, hb⟩ := hb
  refine wp_iaload dX12_isLike_11 i4 b5 ?_
  refine wp_icmp_ne (tgt := 50) dX12_isLike_12 (by decide) (fun c6 => ?_) (fun c6 => ?_)
  · have hb := hb.1 c6
    refine wp_iconst (v := 0) dX12_isLike_50 (by decide) ?_
    refine wp_istore_n (lv2 := [(3, .int 0), (0, .ref x0), (1, .int x1), (2, .int x2)]) dX12_isLike_51 rfl (by decide) rfl ?_
    refine wp_iconst (v := 0) dX12_isLike_52 (by decide) ?_
    refine wp_istore (lv2 := [(4, .int 0), (3, .int 0), (0, .ref x0), (1, .int x1), (2, .int x2)]) dX12_isLike_53 (by decide) rfl ?_
    exact wp_sub [2, 3, 4, 1, 0] rfl hb
  · have hb := hb.2 c6
    refine wp_aload_n 0 dX12_isLike_15 rfl rfl ?_
    obtain ⟨i7, hb⟩ := hb
    refine wp_getR dX12_isLike_16 fl_X12_95 i1 (i7.ne (by decide)) ?_
    refine wp_iload_n 1 dX12_isLike_19 rfl rfl ?_
    obtain ⟨b8, hb⟩ := hb
    refine wp_laload dX12_isLike_20 i7 b8 ?_
    refine wp_aload_n 0 dX12_isLike_21 rfl rfl ?_
    obtain ⟨i9, hb⟩ := hb
    refine wp_getR dX12_isLike_22 fl_X12_95 i1 (i9.ne (by decide)) ?_
    refine wp_iload_n 2 dX12_isLike_25 rfl rfl ?_
    obtain ⟨b10, hb⟩ := hb
    refine wp_laload dX12_isLike_26 i9 b10 ?_
    refine wp_lcmp dX12_isLike_27 ?_
    refine wp_if_ne (tgt := 50) dX12_isLike_28 (by decide) (fun c11 => ?_) (fun c11 => ?_)
    · have hb := hb.1 c11
      refine wp_iconst (v := 0) dX12_isLike_50 (by decide) ?_
      refine wp_istore_n (lv2 := [(3, .int 0), (0, .ref x0), (1, .int x1), (2, .int x2)]) dX12_isLike_51 rfl (by decide) rfl ?_
      refine wp_iconst (v := 0) dX12_isLike_52 (by decide) ?_
      refine wp_istore (lv2 := [(4, .int 0), (3, .int 0), (0, .ref x0), (1, .int x1), (2, .int x2)]) dX12_isLike_53 (by decide) rfl ?_
      exact wp_sub [2, 3, 4, 1, 0] rfl hb
    · have hb := hb.2 c11
      refine wp_aload_n 0 dX12_isLike_31 rfl rfl ?_
      obtain ⟨i12, hb⟩ := hb
      refine wp_getR dX12_isLike_32 fl_X12_80 i1 (i12.ne (by decide)) ?_
      refine wp_iload_n 1 dX12_isLike_35 rfl rfl ?_
      obtain ⟨b13, hb⟩ := hb
      refine wp_iaload dX12_isLike_36 i12 b13 ?_
      refine wp_aload_n 0 dX12_isLike_37 rfl rfl ?_
      obtain ⟨i14, hb⟩ := hb
      refine wp_getR dX12_isLike_38 fl_X12_80 i1 (i14.ne (by decide)) ?_
      refine wp_iload_n 2 dX12_isLike_41 rfl rfl ?_
      obtain ⟨b15, hb⟩ := hb
      refine wp_iaload dX12_isLike_42 i14 b15 ?_
      refine wp_icmp_ne (tgt := 50) dX12_isLike_43 (by decide) (fun c16 => ?_) (fun c16 => ?_)
      · have hb := hb.1 c16
        refine wp_iconst (v := 0) dX12_isLike_50 (by decide) ?_
        refine wp_istore_n (lv2 := [(3, .int 0), (0, .ref x0), (1, .int x1), (2, .int x2)]) dX12_isLike_51 rfl (by decide) rfl ?_
        refine wp_iconst (v := 0) dX12_isLike_52 (by decide) ?_
        refine wp_istore (lv2 := [(4, .int 0), (3, .int 0), (0, .ref x0), (1, .int x1), (2, .int x2)]) dX12_isLike_53 (by decide) rfl ?_
        exact wp_sub [2, 3, 4, 1, 0] rfl hb
      · have hb := hb.2 c16
        refine wp_iconst (v := 1) dX12_isLike_46 (by decide) ?_
        refine wp_goto (tgt := 51) dX12_isLike_47 (by decide) ?_
        refine wp_istore_n (lv2 := [(3, .int 1), (0, .ref x0), (1, .int x1), (2, .int x2)]) dX12_isLike_51 rfl (by decide) rfl ?_
        refine wp_iconst (v := 0) dX12_isLike_52 (by decide) ?_
        refine wp_istore (lv2 := [(4, .int 0), (3, .int 1), (0, .ref x0), (1, .int x1), (2, .int x2)]) dX12_isLike_53 (by decide) rfl ?_
        exact wp_sub [2, 3, 4, 1, 0] rfl hb
set_option maxRecDepth 100000 in
set_option maxHeartbeats 4000000 in
theorem s_X12_isLike_55 {l : Launch} {g : AG} {h : AH} {x0 : Nat} {x1 : Int32} {x2 : Int32} {x3 : Int32} {x4 : Int32}  {Q : Int32 → AH → Prop} (hb : ((27 ≤ x4 → ((x3 = 0 ∨ x3 = 1) ∧ ( Q x3 h))) ∧ (¬ (27 ≤ x4) → (((x3 = 0 → ((x3 = 0 ∨ x3 = 1) ∧ ( Q x3 h))) ∧ (¬ (x3 = 0) → ((Is 194 x0 11) ∧ ( (Is 194 (h.2.2 x0 31) 20) ∧ ( (vp_in x1 (ax_s (h.2.2 x0 31)).2) ∧ ( ∀ v24 : Int32, v24 = ((jishr (h.1 (h.2.2 x0 31) x1.toNatClampNeg) x4) &&& 1) → ( ((v24 = 0 → (∀ v27 : Int32, v27 = x4 + (1) → ( L_X12_isLike_55 l g h x0 x1 x2 1 v27  Q))) ∧ (¬ (v24 = 0) → ((Is 194 (h.2.2 x0 32) 20) ∧ ( (Is 194 (h.2.2 x0 35) 20) ∧ ( (vp_in ((27 * x1) + x4) (ax_s (h.2.2 x0 35)).2) ∧ ( (vp_in (h.1 (h.2.2 x0 35) ((27 * x1) + x4).toNatClampNeg) (ax_s (h.2.2 x0 32)).2) ∧ ( ∀ v33 : Int32, v33 = (h.1 (h.2.2 x0 32) (h.1 (h.2.2 x0 35) ((27 * x1) + x4).toNatClampNeg).toNatClampNeg) → ( (Is 194 (h.2.2 x0 32) 20) ∧ ( (Is 194 (h.2.2 x0 35) 20) ∧ ( (vp_in ((27 * x2) + x4) (ax_s (h.2.2 x0 35)).2) ∧ ( (vp_in (h.1 (h.2.2 x0 35) ((27 * x2) + x4).toNatClampNeg) (ax_s (h.2.2 x0 32)).2) ∧ ( ∀ v39 : Int32, v39 = (h.1 (h.2.2 x0 32) (h.1 (h.2.2 x0 35) ((27 * x2) + x4).toNatClampNeg).toNatClampNeg) → ( ((¬ v33 = v39 → (∀ v42 : Int32, v42 = x4 + (1) → ( L_X12_isLike_55 l g h x0 x1 x2 0 v42  Q))) ∧ (v33 = v39 → (∀ v44 : Int32, v44 = x4 + (1) → ( L_X12_isLike_55 l g h x0 x1 x2 1 v44  Q)))))))))))))))))))))))))))) : L_X12_isLike_55 l g h x0 x1 x2 x3 x4  Q := by
  refine wp_iload 4 dX12_isLike_55 rfl ?_
  refine wp_bipush (v := 27) dX12_isLike_57 (by decide) ?_
  refine wp_icmp_ge (tgt := 129) dX12_isLike_59 (by decide) (fun c17 => ?_) (fun c17 => ?_)
  · have hb := hb.1 c17
    refine wp_iload_n 3 dX12_isLike_129 rfl rfl ?_
    obtain ⟨q18, hb⟩ := hb
    exact wp_zret rfl dX12_isLike_130 q18 ⟨_, rfl, hb⟩
  · have hb := hb.2 c17
    refine wp_iload_n 3 dX12_isLike_62 rfl rfl ?_
    refine wp_if_eq (tgt := 129) dX12_isLike_63 (by decide) (fun c19 => ?_) (fun c19 => ?_)
    · have hb := hb.1 c19
      refine wp_iload_n 3 dX12_isLike_129 rfl rfl ?_
      obtain ⟨q20, hb⟩ := hb
      exact wp_zret rfl dX12_isLike_130 q20 ⟨_, rfl, hb⟩
    · have hb := hb.2 c19
      obtain ⟨i21, hb⟩ := hb
      refine wp_aload_n 0 dX12_isLike_66 rfl rfl ?_
      obtain ⟨i22, hb⟩ := hb
      refine wp_getR dX12_isLike_67 fl_X12_80 i21 (i22.ne (by decide)) ?_
      refine wp_iload_n 1 dX12_isLike_70 rfl rfl ?_
      obtain ⟨b23, hb⟩ := hb
      refine wp_iaload dX12_isLike_71 i22 b23 ?_
      refine wp_iload 4 dX12_isLike_72 rfl ?_
      refine wp_ishr dX12_isLike_74 ?_
      refine wp_iconst (v := 1) dX12_isLike_75 (by decide) ?_
      refine wp_iand dX12_isLike_76 ?_
      refine wp_topi (fun v24 e25 => ?_)
      have hb := hb v24 e25
      refine wp_if_eq (tgt := 117) dX12_isLike_77 (by decide) (fun c26 => ?_) (fun c26 => ?_)
      · have hb := hb.1 c26
        refine wp_iconst (v := 1) dX12_isLike_117 (by decide) ?_
        refine wp_goto (tgt := 122) dX12_isLike_118 (by decide) ?_
        refine wp_istore_n (lv2 := [(3, .int 1), (0, .ref x0), (1, .int x1), (2, .int x2), (4, .int x4)]) dX12_isLike_122 rfl (by decide) rfl ?_
        obtain ⟨v27, e28⟩ : ∃ y : Int32, y = x4 + (1) := ⟨_, rfl⟩
        have hb := hb v27 e28
        refine wp_iinc (v := v27) (lv2 := [(4, .int v27), (3, .int 1), (0, .ref x0), (1, .int x1), (2, .int x2)]) 4 dX12_isLike_123 rfl (by rw [e28]; rfl) (by decide) rfl ?_
        refine wp_goto (tgt := 55) dX12_isLike_126 (by decide) ?_
        exact wp_sub [2, 3, 4, 1, 0] rfl hb
      · have hb := hb.2 c26
        refine wp_aload_n 0 dX12_isLike_80 rfl rfl ?_
        obtain ⟨i29, hb⟩ := hb
        refine wp_getR dX12_isLike_81 fl_X12_83 i21 (i29.ne (by decide)) ?_
        refine wp_aload_n 0 dX12_isLike_84 rfl rfl ?_
        obtain ⟨i30, hb⟩ := hb
        refine wp_getR dX12_isLike_85 fl_X12_92 i21 (i30.ne (by decide)) ?_
        refine wp_bipush (v := 27) dX12_isLike_88 (by decide) ?_
        refine wp_iload_n 1 dX12_isLike_90 rfl rfl ?_
        refine wp_imul dX12_isLike_91 ?_
        refine wp_iload 4 dX12_isLike_92 rfl ?_
        refine wp_iadd dX12_isLike_94 ?_
        obtain ⟨b31, hb⟩ := hb
        refine wp_iaload dX12_isLike_95 i30 b31 ?_
        obtain ⟨b32, hb⟩ := hb
        refine wp_iaload dX12_isLike_96 i29 b32 ?_
        refine wp_topi (fun v33 e34 => ?_)
        have hb := hb v33 e34
        refine wp_aload_n 0 dX12_isLike_97 rfl rfl ?_
        obtain ⟨i35, hb⟩ := hb
        refine wp_getR dX12_isLike_98 fl_X12_83 i21 (i35.ne (by decide)) ?_
        refine wp_aload_n 0 dX12_isLike_101 rfl rfl ?_
        obtain ⟨i36, hb⟩ := hb
        refine wp_getR dX12_isLike_102 fl_X12_92 i21 (i36.ne (by decide)) ?_
        refine wp_bipush (v := 27) dX12_isLike_105 (by decide) ?_
        refine wp_iload_n 2 dX12_isLike_107 rfl rfl ?_
        refine wp_imul dX12_isLike_108 ?_
        refine wp_iload 4 dX12_isLike_109 rfl ?_
        refine wp_iadd dX12_isLike_111 ?_
        obtain ⟨b37, hb⟩ := hb
        refine wp_iaload dX12_isLike_112 i36 b37 ?_
        obtain ⟨b38, hb⟩ := hb
        refine wp_iaload dX12_isLike_113 i35 b38 ?_
        refine wp_topi (fun v39 e40 => ?_)
        have hb := hb v39 e40
        refine wp_icmp_ne (tgt := 121) dX12_isLike_114 (by decide) (fun c41 => ?_) (fun c41 => ?_)
        · have hb := hb.1 c41
          refine wp_iconst (v := 0) dX12_isLike_121 (by decide) ?_
          refine wp_istore_n (lv2 := [(3, .int 0), (0, .ref x0), (1, .int x1), (2, .int x2), (4, .int x4)]) dX12_isLike_122 rfl (by decide) rfl ?_
          obtain ⟨v42, e43⟩ : ∃ y : Int32, y = x4 + (1) := ⟨_, rfl⟩
          have hb := hb v42 e43
          refine wp_iinc (v := v42) (lv2 := [(4, .int v42), (3, .int 0), (0, .ref x0), (1, .int x1), (2, .int x2)]) 4 dX12_isLike_123 rfl (by rw [e43]; rfl) (by decide) rfl ?_
          refine wp_goto (tgt := 55) dX12_isLike_126 (by decide) ?_
          exact wp_sub [2, 3, 4, 1, 0] rfl hb
        · have hb := hb.2 c41
          refine wp_iconst (v := 1) dX12_isLike_117 (by decide) ?_
          refine wp_goto (tgt := 122) dX12_isLike_118 (by decide) ?_
          refine wp_istore_n (lv2 := [(3, .int 1), (0, .ref x0), (1, .int x1), (2, .int x2), (4, .int x4)]) dX12_isLike_122 rfl (by decide) rfl ?_
          obtain ⟨v44, e45⟩ : ∃ y : Int32, y = x4 + (1) := ⟨_, rfl⟩
          have hb := hb v44 e45
          refine wp_iinc (v := v44) (lv2 := [(4, .int v44), (3, .int 1), (0, .ref x0), (1, .int x1), (2, .int x2)]) 4 dX12_isLike_123 rfl (by rw [e45]; rfl) (by decide) rfl ?_
          refine wp_goto (tgt := 55) dX12_isLike_126 (by decide) ?_
          exact wp_sub [2, 3, 4, 1, 0] rfl hb
theorem c_X12_isLike {l : Launch} {g : AG} {h : AH} {x0 : Nat} {x1 : Int32} {x2 : Int32}  {Q : Int32 → AH → Prop} (hb : L_X12_isLike_0 l g h x0 x1 x2  Q) : C_X12_isLike l g h x0 x1 x2  Q := ax_met rfl rfl (Nat.le_of_ble_eq_true rfl) hb
