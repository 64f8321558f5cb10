def C_X12_isState (l : Launch) (g : AG) (h : AH) (x0 : Nat) (x1 : Int32)  (Q : Int32 → AH → Prop) : Prop := Ct l g mX12_isState 0 0 194 194 h [.ref x0, .int x1] (ax_QI Q)
def L_X12_isState_0 (l : Launch) (g : AG) (h : AH) (x0 : Nat) (x1 : Int32)  (Q : Int32 → AH → Prop) : Prop := Wp l g mX12_isState 0 0 194 194 194 0 [(0, .ref x0), (1, .int x1)] [] h (FM g 194 194 (ax_QI Q))
set_option maxRecDepth 100000 in
set_option maxHeartbeats 4000000 in
theorem s_X12_isState_0 {l : Launch} {g : AG} {h : AH} {x0 : Nat} {x1 : Int32}  {Q : Int32 → AH → Prop} (hb : (Is 194 x0 11) ∧ ( ((h.1 x0 24 = (-1) → (Q 0 h)) ∧ (¬ (h.1 x0 24 = (-1)) → (((x1 < 0 → (Q 0 h)) ∧ (¬ (x1 < 0) → (((h.1 x0 25 ≤ x1 → (Q 0 h)) ∧ (¬ (h.1 x0 25 ≤ x1) → (Q 1 h))))))))))) : L_X12_isState_0 l g h x0 x1  Q := by
  obtain ⟨i1, hb⟩ := hb
  refine wp_aload_n 0 dX12_isState_0 rfl rfl ?_
  refine wp_getI dX12_isState_1 fl_X12_62 i1 ?_
  refine wp_iconst (v := (-1)) dX12_isState_4 (by decide) ?_
  refine wp_icmp_eq (tgt := 24) dX12_isState_5 (by decide) (fun c2 => ?_) (fun c2 => ?_)
  · have hb := hb.1 c2
    refine wp_iconst (v := 0) dX12_isState_24 (by decide) ?_
    exact wp_zret rfl dX12_isState_25 (Or.inl rfl) ⟨_, rfl, hb⟩
  · have hb := hb.2 c2
    refine wp_iload_n 1 dX12_isState_8 rfl rfl ?_
    refine wp_if_lt (tgt := 24) dX12_isState_9 (by decide) (fun c3 => ?_) (fun c3 => ?_)
    · have hb := hb.1 c3
      refine wp_iconst (v := 0) dX12_isState_24 (by decide) ?_
      exact wp_zret rfl dX12_isState_25 (Or.inl rfl) ⟨_, rfl, hb⟩
    · have hb := hb.2 c3
      refine wp_iload_n 1 dX12_isState_12 rfl rfl ?_
      refine wp_aload_n 0 dX12_isState_13 rfl rfl ?_
      refine wp_getI dX12_isState_14 fl_X12_334 i1 ?_
      refine wp_icmp_ge (tgt := 24) dX12_isState_17 (by decide) (fun c4 => ?_) (fun c4 => ?_)
      · have hb := hb.1 c4
        refine wp_iconst (v := 0) dX12_isState_24 (by decide) ?_
        exact wp_zret rfl dX12_isState_25 (Or.inl rfl) ⟨_, rfl, hb⟩
      · have hb := hb.2 c4
        refine wp_iconst (v := 1) dX12_isState_20 (by decide) ?_
        refine wp_goto (tgt := 25) dX12_isState_21 (by decide) ?_
        exact wp_zret rfl dX12_isState_25 (Or.inr rfl) ⟨_, rfl, hb⟩
theorem c_X12_isState {l : Launch} {g : AG} {h : AH} {x0 : Nat} {x1 : Int32}  {Q : Int32 → AH → Prop} (hb : L_X12_isState_0 l g h x0 x1  Q) : C_X12_isState l g h x0 x1  Q := ax_met rfl (Nat.le_of_ble_eq_true rfl) hb
def C_X12_met (l : Launch) (g : AG) (h : AH) (x0 : Nat) (x1 : Int32) (x2 : Int32)  (Q : Int32 → AH → Prop) : Prop := Ct l g mX12_met 1 26 194 194 h [.ref x0, .int x1, .int x2] (ax_QI Q)
def L_X12_met_0 (l : Launch) (g : AG) (h : AH) (x0 : Nat) (x1 : Int32) (x2 : Int32)  (Q : Int32 → AH → Prop) : Prop := Wp l g mX12_met 1 26 194 194 194 0 [(0, .ref x0), (1, .int x1), (2, .int x2)] [] h (FM g 194 194 (ax_QI Q))
set_option maxRecDepth 100000 in
set_option maxHeartbeats 4000000 in
theorem s_X12_met_0 {l : Launch} {g : AG} {h : AH} {x0 : Nat} {x1 : Int32} {x2 : Int32}  {Q : Int32 → AH → Prop} (hb : (Is 194 x0 11) ∧ ( ∀ h2 : AH, h2 = ax_setI h x0 0 0 → ( C_X12_isState l g h2 x0 x1 (fun r6 h5 => ( ((¬ r6 = 0 → ((Is 194 (h5.2.2 x0 26) 21) ∧ ( (vp_in x1 (ax_s (h5.2.2 x0 26)).2) ∧ ( (Is 194 (h5.2.2 x0 27) 21) ∧ ( (vp_in x1 (ax_s (h5.2.2 x0 27)).2) ∧ ( C_X12_unpack l g h5 x0 (h5.2.1 (h5.2.2 x0 26) x1.toNatClampNeg) (h5.2.1 (h5.2.2 x0 27) x1.toNatClampNeg) (fun h13 => ( ((x2 = 0 → (Q (h13.1 x0 19) h13)) ∧ (¬ x2 = 0 → (((x2 = 1 → (Q (h13.1 x0 20) h13)) ∧ (¬ x2 = 1 → (((x2 = 2 → (((h13.1 x0 20 ≤ 0 → (Q (-1) h13)) ∧ (¬ (h13.1 x0 20 ≤ 0) → ((Is 194 (h13.2.2 x0 21) 20) ∧ ( (vp_in ((h13.1 x0 20) - 1) (ax_s (h13.2.2 x0 21)).2) ∧ ( ∀ v20 : Int32, v20 = (h13.1 (h13.2.2 x0 21) ((h13.1 x0 20) - 1).toNatClampNeg) → ( Q v20 h13)))))))) ∧ (¬ x2 = 2 → (((x2 = 3 → ((Is 194 (h13.2.2 x0 30) 20) ∧ ( (vp_in x1 (ax_s (h13.2.2 x0 30)).2) ∧ ( Q (h13.1 (h13.2.2 x0 30) x1.toNatClampNeg) h13)))) ∧ (¬ x2 = 3 → (((x2 = 4 → ((Is 194 (h13.2.2 x0 31) 20) ∧ ( (vp_in x1 (ax_s (h13.2.2 x0 31)).2) ∧ ( C_X12_bits l g h13 (h13.1 (h13.2.2 x0 31) x1.toNatClampNeg) (fun r30 h29 => ( Q r30 h29)))))) ∧ (¬ x2 = 4 → (((x2 = 5 → ((Is 194 (h13.2.2 x0 32) 20) ∧ ( (vp_in x1 (ax_s (h13.2.2 x0 32)).2) ∧ ( Q (h13.1 (h13.2.2 x0 32) x1.toNatClampNeg) h13)))) ∧ (¬ x2 = 5 → (Q (-1) h13)))))))))))))))))))))))))) ∧ (r6 = 0 → (Q (-1) h5)))))))) : L_X12_met_0 l g h x0 x1 x2  Q := by
  obtain ⟨i1, hb⟩ := hb
  refine wp_aload_n 0 dX12_met_0 rfl rfl ?_
  refine wp_iconst (v := 0) dX12_met_1 (by decide) ?_
  refine wp_putI dX12_met_2 fl_X12_1 (Or.inl rfl) i1 ?_
  refine wp_topH (fun h2 e3 => ?_)
  have hb := hb h2 e3
  refine wp_aload_n 0 dX12_met_5 rfl rfl ?_
  refine wp_iload_n 1 dX12_met_6 rfl rfl ?_
  refine wp_callV (as := [.int x1]) dX12_met_7 cb_X12_isState lk_X12_412 im_X12_isState se_X12_isState rfl (Nat.le_of_ble_eq_true rfl) ⟨by decide, by decide⟩ ⟨Nat.le_refl _, Nat.le_refl _, Nat.le_refl _⟩ i1 rfl (by decide) hb (fun r0 h5 hb => ?_)
  obtain ⟨r6, rfl, hb⟩ := hb
  refine wp_if_ne (tgt := 15) dX12_met_10 (by decide) (fun c7 => ?_) (fun c7 => ?_)
  · have hb := hb.1 c7
    refine wp_aload_n 0 dX12_met_15 rfl rfl ?_
    refine wp_aload_n 0 dX12_met_16 rfl rfl ?_
    obtain ⟨i8, hb⟩ := hb
    refine wp_getR dX12_met_17 fl_X12_65 i1 (i8.ne (by decide)) ?_
    refine wp_iload_n 1 dX12_met_20 rfl rfl ?_
    obtain ⟨b9, hb⟩ := hb
    refine wp_laload dX12_met_21 i8 b9 ?_
    refine wp_aload_n 0 dX12_met_22 rfl rfl ?_
    obtain ⟨i10, hb⟩ := hb
    refine wp_getR dX12_met_23 fl_X12_68 i1 (i10.ne (by decide)) ?_
    refine wp_iload_n 1 dX12_met_26 rfl rfl ?_
    obtain ⟨b11, hb⟩ := hb
    refine wp_laload dX12_met_27 i10 b11 ?_
    refine wp_callV (as := [.long (h5.2.1 (h5.2.2 x0 26) x1.toNatClampNeg), .long (h5.2.1 (h5.2.2 x0 27) x1.toNatClampNeg)]) dX12_met_28 cb_X12_unpack lk_X12_377 im_X12_unpack se_X12_unpack rfl (Nat.le_of_ble_eq_true rfl) ⟨by decide, by decide⟩ ⟨Nat.le_refl _, Nat.le_refl _, Nat.le_refl _⟩ i1 rfl (by decide) hb (fun r0 h13 hb => ?_)
    obtain ⟨rfl, hb⟩ := hb
    refine wp_iload_n 2 dX12_met_31 rfl rfl ?_
    refine wp_case 0 (fun c14 => ?_) (fun c14 => ?_)
    · have hb := hb.1 c14
      refine wp_tableIn (v := 0) (tgt := 72) dX12_met_32 c14 (by decide) (by decide) rfl (by decide) ?_
      refine wp_aload_n 0 dX12_met_72 rfl rfl ?_
      refine wp_getI dX12_met_73 fl_X12_343 i1 ?_
      exact wp_iret rfl dX12_met_76 ⟨_, rfl, hb⟩
    · have hb := hb.2 c14
      refine wp_case 1 (fun c15 => ?_) (fun c15 => ?_)
      · have hb := hb.1 c15
        refine wp_tableIn (v := 1) (tgt := 77) dX12_met_32 c15 (by decide) (by decide) rfl (by decide) ?_
        refine wp_aload_n 0 dX12_met_77 rfl rfl ?_
        refine wp_getI dX12_met_78 fl_X12_346 i1 ?_
        exact wp_iret rfl dX12_met_81 ⟨_, rfl, hb⟩
      · have hb := hb.2 c15
        refine wp_case 2 (fun c16 => ?_) (fun c16 => ?_)
        · have hb := hb.1 c16
          refine wp_tableIn (v := 2) (tgt := 82) dX12_met_32 c16 (by decide) (by decide) rfl (by decide) ?_
          refine wp_aload_n 0 dX12_met_82 rfl rfl ?_
          refine wp_getI dX12_met_83 fl_X12_346 i1 ?_
          refine wp_if_le (tgt := 103) dX12_met_86 (by decide) (fun c17 => ?_) (fun c17 => ?_)
          · have hb := hb.1 c17
            refine wp_iconst (v := (-1)) dX12_met_103 (by decide) ?_
            exact wp_iret rfl dX12_met_104 ⟨_, rfl, hb⟩
          · have hb := hb.2 c17
            refine wp_aload_n 0 dX12_met_89 rfl rfl ?_
            obtain ⟨i18, hb⟩ := hb
            refine wp_getR dX12_met_90 fl_X12_52 i1 (i18.ne (by decide)) ?_
            refine wp_aload_n 0 dX12_met_93 rfl rfl ?_
            refine wp_getI dX12_met_94 fl_X12_346 i1 ?_
            refine wp_iconst (v := 1) dX12_met_97 (by decide) ?_
            refine wp_isub dX12_met_98 ?_
            obtain ⟨b19, hb⟩ := hb
            refine wp_iaload dX12_met_99 i18 b19 ?_
            refine wp_topi (fun v20 e21 => ?_)
            have hb := hb v20 e21
            refine wp_goto (tgt := 104) dX12_met_100 (by decide) ?_
            exact wp_iret rfl dX12_met_104 ⟨_, rfl, hb⟩
        · have hb := hb.2 c16
          refine wp_case 3 (fun c22 => ?_) (fun c22 => ?_)
          · have hb := hb.1 c22
            refine wp_tableIn (v := 3) (tgt := 105) dX12_met_32 c22 (by decide) (by decide) rfl (by decide) ?_
            refine wp_aload_n 0 dX12_met_105 rfl rfl ?_
            obtain ⟨i23, hb⟩ := hb
            refine wp_getR dX12_met_106 fl_X12_77 i1 (i23.ne (by decide)) ?_
            refine wp_iload_n 1 dX12_met_109 rfl rfl ?_
            obtain ⟨b24, hb⟩ := hb
            refine wp_iaload dX12_met_110 i23 b24 ?_
            exact wp_iret rfl dX12_met_111 ⟨_, rfl, hb⟩
          · have hb := hb.2 c22
            refine wp_case 4 (fun c25 => ?_) (fun c25 => ?_)
            · have hb := hb.1 c25
              refine wp_tableIn (v := 4) (tgt := 112) dX12_met_32 c25 (by decide) (by decide) rfl (by decide) ?_
              refine wp_aload_n 0 dX12_met_112 rfl rfl ?_
              obtain ⟨i26, hb⟩ := hb
              refine wp_getR dX12_met_113 fl_X12_80 i1 (i26.ne (by decide)) ?_
              refine wp_iload_n 1 dX12_met_116 rfl rfl ?_
              obtain ⟨b27, hb⟩ := hb
              refine wp_iaload dX12_met_117 i26 b27 ?_
              refine wp_callS (as := [.int (h13.1 (h13.2.2 x0 31) x1.toNatClampNeg)]) dX12_met_118 cb_X12_bits lk_X12_387 st_X12_bits rfl (Nat.le_of_ble_eq_true rfl) ⟨by decide, by decide⟩ ⟨Nat.le_refl _, Nat.le_refl _, Nat.le_refl _⟩ hb (fun r0 h29 hb => ?_)
              obtain ⟨r30, rfl, hb⟩ := hb
              exact wp_iret rfl dX12_met_121 ⟨_, rfl, hb⟩
            · have hb := hb.2 c25
              refine wp_case 5 (fun c31 => ?_) (fun c31 => ?_)
              · have hb := hb.1 c31
                refine wp_tableIn (v := 5) (tgt := 122) dX12_met_32 c31 (by decide) (by decide) rfl (by decide) ?_
                refine wp_aload_n 0 dX12_met_122 rfl rfl ?_
                obtain ⟨i32, hb⟩ := hb
                refine wp_getR dX12_met_123 fl_X12_83 i1 (i32.ne (by decide)) ?_
                refine wp_iload_n 1 dX12_met_126 rfl rfl ?_
                obtain ⟨b33, hb⟩ := hb
                refine wp_iaload dX12_met_127 i32 b33 ?_
                exact wp_iret rfl dX12_met_128 ⟨_, rfl, hb⟩
              · have hb := hb.2 c31
                refine wp_tableOut (tgt := 129) dX12_met_32 (by have zc14 := lv_neT (k := 0) (a := 0) c14 rfl; have zc15 := lv_neT (k := 1) (a := 1) c15 rfl; have zc16 := lv_neT (k := 2) (a := 2) c16 rfl; have zc22 := lv_neT (k := 3) (a := 3) c22 rfl; have zc25 := lv_neT (k := 4) (a := 4) c25 rfl; have zc31 := lv_neT (k := 5) (a := 5) c31 rfl; omega) (by decide) ?_
                refine wp_iconst (v := (-1)) dX12_met_129 (by decide) ?_
                exact wp_iret rfl dX12_met_130 ⟨_, rfl, hb⟩
  · have hb := hb.2 c7
    refine wp_iconst (v := (-1)) dX12_met_13 (by decide) ?_
    exact wp_iret rfl dX12_met_14 ⟨_, rfl, hb⟩
theorem c_X12_met {l : Launch} {g : AG} {h : AH} {x0 : Nat} {x1 : Int32} {x2 : Int32}  {Q : Int32 → AH → Prop} (hb : L_X12_met_0 l g h x0 x1 x2  Q) : C_X12_met l g h x0 x1 x2  Q := ax_met rfl (Nat.le_of_ble_eq_true rfl) hb
def C_X12_leads (l : Launch) (g : AG) (h : AH) (x0 : Nat) (x1 : Int32) (x2 : Int32)  (Q : Int32 → AH → Prop) : Prop := Ct l g mX12_leads 1 21 194 194 h [.ref x0, .int x1, .int x2] (ax_QI Q)
def L_X12_leads_0 (l : Launch) (g : AG) (h : AH) (x0 : Nat) (x1 : Int32) (x2 : Int32)  (Q : Int32 → AH → Prop) : Prop := Wp l g mX12_leads 1 21 194 194 194 0 [(0, .ref x0), (1, .int x1), (2, .int x2)] [] h (FM g 194 194 (ax_QI Q))
set_option maxRecDepth 100000 in
set_option maxHeartbeats 4000000 in
theorem s_X12_leads_0 {l : Launch} {g : AG} {h : AH} {x0 : Nat} {x1 : Int32} {x2 : Int32}  {Q : Int32 → AH → Prop} (hb : (Is 194 x0 11) ∧ ( ∀ h2 : AH, h2 = ax_setI h x0 0 0 → ( C_X12_isState l g h2 x0 x1 (fun r6 h5 => ( ((r6 = 0 → (Q (-1) h5)) ∧ (¬ (r6 = 0) → (C_X12_isAct l g h5 x2 (fun r10 h9 => ( ((r10 = 0 → (Q (-1) h9)) ∧ (¬ (r10 = 0) → ((Is 194 (h9.2.2 x0 35) 20) ∧ ( (vp_in ((27 * x1) + x2) (ax_s (h9.2.2 x0 35)).2) ∧ ( ∀ v14 : Int32, v14 = (h9.1 (h9.2.2 x0 35) ((27 * x1) + x2).toNatClampNeg) → ( Q v14 h9)))))))))))))))) : L_X12_leads_0 l g h x0 x1 x2  Q := by
  obtain ⟨i1, hb⟩ := hb
  refine wp_aload_n 0 dX12_leads_0 rfl rfl ?_
  refine wp_iconst (v := 0) dX12_leads_1 (by decide) ?_
  refine wp_putI dX12_leads_2 fl_X12_1 (Or.inl rfl) i1 ?_
  refine wp_topH (fun h2 e3 => ?_)
  have hb := hb h2 e3
  refine wp_aload_n 0 dX12_leads_5 rfl rfl ?_
  refine wp_iload_n 1 dX12_leads_6 rfl rfl ?_
  refine wp_callV (as := [.int x1]) dX12_leads_7 cb_X12_isState lk_X12_412 im_X12_isState se_X12_isState rfl (Nat.le_of_ble_eq_true rfl) ⟨by decide, by decide⟩ ⟨Nat.le_refl _, Nat.le_refl _, Nat.le_refl _⟩ i1 rfl (by decide) hb (fun r0 h5 hb => ?_)
  obtain ⟨r6, rfl, hb⟩ := hb
  refine wp_if_eq (tgt := 34) dX12_leads_10 (by decide) (fun c7 => ?_) (fun c7 => ?_)
  · have hb := hb.1 c7
    refine wp_iconst (v := (-1)) dX12_leads_34 (by decide) ?_
    exact wp_iret rfl dX12_leads_35 ⟨_, rfl, hb⟩
  · have hb := hb.2 c7
    refine wp_iload_n 2 dX12_leads_13 rfl rfl ?_
    refine wp_callS (as := [.int x2]) dX12_leads_14 cb_X12_isAct lk_X12_374 st_X12_isAct rfl (Nat.le_of_ble_eq_true rfl) ⟨by decide, by decide⟩ ⟨Nat.le_refl _, Nat.le_refl _, Nat.le_refl _⟩ hb (fun r0 h9 hb => ?_)
    obtain ⟨r10, rfl, hb⟩ := hb
    refine wp_if_eq (tgt := 34) dX12_leads_17 (by decide) (fun c11 => ?_) (fun c11 => ?_)
    · have hb := hb.1 c11
      refine wp_iconst (v := (-1)) dX12_leads_34 (by decide) ?_
      exact wp_iret rfl dX12_leads_35 ⟨_, rfl, hb⟩
    · have hb := hb.2 c11
      refine wp_aload_n 0 dX12_leads_20 rfl rfl ?_
      obtain ⟨i12, hb⟩ := hb
      refine wp_getR dX12_leads_21 fl_X12_92 i1 (i12.ne (by decide)) ?_
      refine wp_bipush (v := 27) dX12_leads_24 (by decide) ?_
      refine wp_iload_n 1 dX12_leads_26 rfl rfl ?_
      refine wp_imul dX12_leads_27 ?_
      refine wp_iload_n 2 dX12_leads_28 rfl rfl ?_
      refine wp_iadd dX12_leads_29 ?_
      obtain ⟨b13, hb⟩ := hb
      refine wp_iaload dX12_leads_30 i12 b13 ?_
      refine wp_topi (fun v14 e15 => ?_)
      have hb := hb v14 e15
      refine wp_goto (tgt := 35) dX12_leads_31 (by decide) ?_
      exact wp_iret rfl dX12_leads_35 ⟨_, rfl, hb⟩
theorem c_X12_leads {l : Launch} {g : AG} {h : AH} {x0 : Nat} {x1 : Int32} {x2 : Int32}  {Q : Int32 → AH → Prop} (hb : L_X12_leads_0 l g h x0 x1 x2  Q) : C_X12_leads l g h x0 x1 x2  Q := ax_met rfl (Nat.le_of_ble_eq_true rfl) hb
