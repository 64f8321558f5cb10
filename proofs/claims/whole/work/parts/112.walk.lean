def C_X5_add (l : Launch) (g : AG) (h : AH) (x0 : Nat) (x1 : Int32) (x2 : Int32) (x3 : Int32) (x4 : Int32)  (Q : Int32 → AH → Prop) : Prop := Ct l g mX5_add 0 0 194 194 h [.ref x0, .int x1, .int x2, .int x3, .int x4] (ax_QI Q)
def L_X5_add_0 (l : Launch) (g : AG) (h : AH) (x0 : Nat) (x1 : Int32) (x2 : Int32) (x3 : Int32) (x4 : Int32)  (Q : Int32 → AH → Prop) : Prop := Wp l g mX5_add 0 0 194 194 194 0 [(0, .ref x0), (1, .int x1), (2, .int x2), (3, .int x3), (4, .int x4)] [] h (FM g 194 194 (ax_QI Q))
set_option maxRecDepth 100000 in
set_option maxHeartbeats 4000000 in
theorem s_X5_add_0 {l : Launch} {g : AG} {h : AH} {x0 : Nat} {x1 : Int32} {x2 : Int32} {x3 : Int32} {x4 : Int32}  {Q : Int32 → AH → Prop} (hb : (Is 194 x0 4) ∧ ( (Is 194 (h.2.2 x0 0) 20) ∧ ( (vp_in x1 (ax_s (h.2.2 x0 0)).2) ∧ ( ∀ v4 : Int32, v4 = ((x1 * 4) + (h.1 (h.2.2 x0 0) x1.toNatClampNeg)) → ( (Is 194 (h.2.2 x0 1) 20) ∧ ( (vp_in v4 (ax_s (h.2.2 x0 1)).2) ∧ ( ∀ h8 : AH, h8 = ax_setI h (h.2.2 x0 1) v4.toNatClampNeg x2 → ( (Is 194 (h8.2.2 x0 2) 20) ∧ ( (vp_in v4 (ax_s (h8.2.2 x0 2)).2) ∧ ( ∀ h12 : AH, h12 = ax_setI h8 (h8.2.2 x0 2) v4.toNatClampNeg x3 → ( (Is 194 (h12.2.2 x0 3) 20) ∧ ( (vp_in v4 (ax_s (h12.2.2 x0 3)).2) ∧ ( ∀ h16 : AH, h16 = ax_setI h12 (h12.2.2 x0 3) v4.toNatClampNeg x4 → ( (Is 194 (h16.2.2 x0 0) 20) ∧ ( (vp_in x1 (ax_s (h16.2.2 x0 0)).2) ∧ ( (vp_in x1 (ax_s (h16.2.2 x0 0)).2) ∧ ( ∀ h21 : AH, h21 = ax_setI h16 (h16.2.2 x0 0) x1.toNatClampNeg ((h16.1 (h16.2.2 x0 0) x1.toNatClampNeg) + 1) → ( Q v4 h21)))))))))))))))))) : L_X5_add_0 l g h x0 x1 x2 x3 x4  Q := by
  refine wp_iload_n 1 dX5_add_0 rfl rfl ?_
  refine wp_iconst (v := 4) dX5_add_1 (by decide) ?_
  refine wp_imul dX5_add_2 ?_
  obtain ⟨i1, hb⟩ := hb
  refine wp_aload_n 0 dX5_add_3 rfl rfl ?_
  obtain ⟨i2, hb⟩ := hb
  refine wp_getR dX5_add_4 fl_X5_11 i1 (i2.ne (by decide)) ?_
  refine wp_iload_n 1 dX5_add_7 rfl rfl ?_
  obtain ⟨b3, hb⟩ := hb
  refine wp_iaload dX5_add_8 i2 b3 ?_
  refine wp_iadd dX5_add_9 ?_
  refine wp_topi (fun v4 e5 => ?_)
  have hb := hb v4 e5
  refine wp_istore (lv2 := [(5, .int v4), (0, .ref x0), (1, .int x1), (2, .int x2), (3, .int x3), (4, .int x4)]) dX5_add_10 (by decide) rfl ?_
  refine wp_aload_n 1 dX5_add_12 rfl rfl ?_
  obtain ⟨i6, hb⟩ := hb
  refine wp_getR dX5_add_13 fl_X5_15 i1 (i6.ne (by decide)) ?_
  refine wp_iload 0 dX5_add_16 rfl ?_
  refine wp_iload_n 3 dX5_add_18 rfl rfl ?_
  obtain ⟨b7, hb⟩ := hb
  refine wp_iastore dX5_add_19 i6 b7 ?_
  refine wp_topH (fun h8 e9 => ?_)
  have hb := hb h8 e9
  refine wp_aload_n 1 dX5_add_20 rfl rfl ?_
  obtain ⟨i10, hb⟩ := hb
  refine wp_getR dX5_add_21 fl_X5_18 i1 (i10.ne (by decide)) ?_
  refine wp_iload 0 dX5_add_24 rfl ?_
  refine wp_iload_n 4 dX5_add_26 rfl rfl ?_
  obtain ⟨b11, hb⟩ := hb
  refine wp_iastore dX5_add_27 i10 b11 ?_
  refine wp_topH (fun h12 e13 => ?_)
  have hb := hb h12 e13
  refine wp_aload_n 1 dX5_add_28 rfl rfl ?_
  obtain ⟨i14, hb⟩ := hb
  refine wp_getR dX5_add_29 fl_X5_21 i1 (i14.ne (by decide)) ?_
  refine wp_iload 0 dX5_add_32 rfl ?_
  refine wp_iload 5 dX5_add_34 rfl ?_
  obtain ⟨b15, hb⟩ := hb
  refine wp_iastore dX5_add_36 i14 b15 ?_
  refine wp_topH (fun h16 e17 => ?_)
  have hb := hb h16 e17
  refine wp_aload_n 1 dX5_add_37 rfl rfl ?_
  obtain ⟨i18, hb⟩ := hb
  refine wp_getR dX5_add_38 fl_X5_11 i1 (i18.ne (by decide)) ?_
  refine wp_iload_n 2 dX5_add_41 rfl rfl ?_
  refine wp_dup2_11 dX5_add_42 rfl rfl ?_
  obtain ⟨b19, hb⟩ := hb
  refine wp_iaload dX5_add_43 i18 b19 ?_
  refine wp_iconst (v := 1) dX5_add_44 (by decide) ?_
  refine wp_iadd dX5_add_45 ?_
  obtain ⟨b20, hb⟩ := hb
  refine wp_iastore dX5_add_46 i18 b20 ?_
  refine wp_topH (fun h21 e22 => ?_)
  have hb := hb h21 e22
  refine wp_iload 0 dX5_add_47 rfl ?_
  exact wp_iret rfl dX5_add_49 ⟨_, rfl, hb⟩
theorem c_X5_add {l : Launch} {g : AG} {h : AH} {x0 : Nat} {x1 : Int32} {x2 : Int32} {x3 : Int32} {x4 : Int32}  {Q : Int32 → AH → Prop} (hb : L_X5_add_0 l g h x0 x1 x2 x3 x4  Q) : C_X5_add l g h x0 x1 x2 x3 x4  Q := ax_met rfl (Nat.le_of_ble_eq_true rfl) hb
def C_X7_takeDeed (l : Launch) (g : AG) (h : AH) (x0 : Nat)  (Q : Int32 → AH → Prop) : Prop := Ct l g mX7_takeDeed 6 162 194 194 h [.ref x0] (ax_QI Q)
def L_X7_takeDeed_0 (l : Launch) (g : AG) (h : AH) (x0 : Nat)  (Q : Int32 → AH → Prop) : Prop := Wp l g mX7_takeDeed 6 162 194 194 194 0 [(0, .ref x0)] [] h (FM g 194 194 (ax_QI Q))
set_option maxRecDepth 100000 in
set_option maxHeartbeats 4000000 in
theorem s_X7_takeDeed_0 {l : Launch} {g : AG} {h : AH} {x0 : Nat}  {Q : Int32 → AH → Prop} (hb : (Is 194 x0 6) ∧ ( C_X7_deedSaid l g h x0 (fun r4 h3 => ( ∀ h5 : AH, h5 = ax_setI h3 x0 9 r4 → ( ((¬ h5.1 x0 9 = (-1) → ((Is 194 (h5.2.2 x0 1) 0) ∧ ( (Is 194 (h5.2.2 (h5.2.2 x0 1) 18) 4) ∧ ( (Is 194 (h5.2.2 (h5.2.2 (h5.2.2 x0 1) 18) 0) 20) ∧ ( (vp_in (h5.1 x0 10) (ax_s (h5.2.2 (h5.2.2 (h5.2.2 x0 1) 18) 0)).2) ∧ ( ∀ v12 : Int32, v12 = (h5.1 (h5.2.2 (h5.2.2 (h5.2.2 x0 1) 18) 0) (h5.1 x0 10).toNatClampNeg) → ( ((v12 < 4 → (((h5.1 x0 9 = 0 → (C_X7_awaits l g h5 x0 18 (fun r18 h17 => ( (r18 = 0 ∨ r18 = 1) ∧ ( Q r18 h17))))) ∧ (¬ h5.1 x0 9 = 0 → (((h5.1 x0 9 = 1 → ((Is 194 (h5.2.2 x0 1) 0) ∧ ( (Is 194 (h5.2.2 (h5.2.2 x0 1) 18) 4) ∧ ( C_X5_add l g h5 (h5.2.2 (h5.2.2 x0 1) 18) (h5.1 x0 10) (h5.1 x0 9) 0 0 (fun r25 h24 => ( C_X7_awaits l g h24 x0 21 (fun r28 h27 => ( (r28 = 0 ∨ r28 = 1) ∧ ( Q r28 h27))))))))) ∧ (¬ h5.1 x0 9 = 1 → (((h5.1 x0 9 = 2 → (C_X7_awaits l g h5 x0 19 (fun r33 h32 => ( (r33 = 0 ∨ r33 = 1) ∧ ( Q r33 h32))))) ∧ (¬ h5.1 x0 9 = 2 → (((h5.1 x0 9 = 3 → (C_X7_awaits l g h5 x0 19 (fun r38 h37 => ( (r38 = 0 ∨ r38 = 1) ∧ ( Q r38 h37))))) ∧ (¬ h5.1 x0 9 = 3 → (((h5.1 x0 9 = 4 → (C_X7_awaits l g h5 x0 20 (fun r43 h42 => ( (r43 = 0 ∨ r43 = 1) ∧ ( Q r43 h42))))) ∧ (¬ h5.1 x0 9 = 4 → (C_X7_awaits l g h5 x0 19 (fun r47 h46 => ( (r47 = 0 ∨ r47 = 1) ∧ ( Q r47 h46)))))))))))))))))))) ∧ (¬ (v12 < 4) → (C_X7_faulty l g h5 x0 5 (fun r51 h50 => ( (r51 = 0 ∨ r51 = 1) ∧ ( Q r51 h50))))))))))))) ∧ (h5.1 x0 9 = (-1) → (C_X7_faulty l g h5 x0 1 (fun r55 h54 => ( (r55 = 0 ∨ r55 = 1) ∧ ( Q r55 h54))))))))))) : L_X7_takeDeed_0 l g h x0  Q := by
  obtain ⟨i1, hb⟩ := hb
  refine wp_aload_n 0 dX7_takeDeed_0 rfl rfl ?_
  refine wp_aload_n 0 dX7_takeDeed_1 rfl rfl ?_
  refine wp_callV (as := []) dX7_takeDeed_2 cb_X7_deedSaid lk_X7_259 im_X7_deedSaid se_X7_deedSaid rfl (Nat.le_of_ble_eq_true rfl) ⟨by decide, by decide⟩ ⟨Nat.le_refl _, Nat.le_refl _, Nat.le_refl _⟩ i1 rfl (by decide) hb (fun r0 h3 hb => ?_)
  obtain ⟨r4, rfl, hb⟩ := hb
  refine wp_putI dX7_takeDeed_5 fl_X7_42 (Or.inl rfl) i1 ?_
  refine wp_topH (fun h5 e6 => ?_)
  have hb := hb h5 e6
  refine wp_aload_n 0 dX7_takeDeed_8 rfl rfl ?_
  refine wp_getI dX7_takeDeed_9 fl_X7_42 i1 ?_
  refine wp_iconst (v := (-1)) dX7_takeDeed_12 (by decide) ?_
  refine wp_icmp_ne (tgt := 22) dX7_takeDeed_13 (by decide) (fun c7 => ?_) (fun c7 => ?_)
  · have hb := hb.1 c7
    refine wp_aload_n 0 dX7_takeDeed_22 rfl rfl ?_
    obtain ⟨i8, hb⟩ := hb
    refine wp_getR dX7_takeDeed_23 fl_X7_64 i1 (i8.ne (by decide)) ?_
    obtain ⟨i9, hb⟩ := hb
    refine wp_getR dX7_takeDeed_26 fl_X7_263 i8 (i9.ne (by decide)) ?_
    obtain ⟨i10, hb⟩ := hb
    refine wp_getR dX7_takeDeed_29 fl_X7_267 i9 (i10.ne (by decide)) ?_
    refine wp_aload_n 0 dX7_takeDeed_32 rfl rfl ?_
    refine wp_getI dX7_takeDeed_33 fl_X7_45 i1 ?_
    obtain ⟨b11, hb⟩ := hb
    refine wp_iaload dX7_takeDeed_36 i10 b11 ?_
    refine wp_topi (fun v12 e13 => ?_)
    have hb := hb v12 e13
    refine wp_iconst (v := 4) dX7_takeDeed_37 (by decide) ?_
    refine wp_icmp_lt (tgt := 47) dX7_takeDeed_38 (by decide) (fun c14 => ?_) (fun c14 => ?_)
    · have hb := hb.1 c14
      refine wp_aload_n 0 dX7_takeDeed_47 rfl rfl ?_
      refine wp_getI dX7_takeDeed_48 fl_X7_42 i1 ?_
      refine wp_case 0 (fun c15 => ?_) (fun c15 => ?_)
      · have hb := hb.1 c15
        refine wp_tableIn (v := 0) (tgt := 84) dX7_takeDeed_51 c15 (by decide) (by decide) rfl (by decide) ?_
        refine wp_aload_n 0 dX7_takeDeed_84 rfl rfl ?_
        refine wp_bipush (v := 18) dX7_takeDeed_85 (by decide) ?_
        refine wp_callV (as := [.int 18]) dX7_takeDeed_87 cb_X7_awaits lk_X7_131 im_X7_awaits se_X7_awaits rfl (Nat.le_of_ble_eq_true rfl) ⟨by decide, by decide⟩ ⟨Nat.le_refl _, Nat.le_refl _, Nat.le_refl _⟩ i1 rfl (by decide) hb (fun r0 h17 hb => ?_)
        obtain ⟨r18, rfl, hb⟩ := hb
        obtain ⟨q19, hb⟩ := hb
        exact wp_zret rfl dX7_takeDeed_90 q19 ⟨_, rfl, hb⟩
      · have hb := hb.2 c15
        refine wp_case 1 (fun c20 => ?_) (fun c20 => ?_)
        · have hb := hb.1 c20
          refine wp_tableIn (v := 1) (tgt := 91) dX7_takeDeed_51 c20 (by decide) (by decide) rfl (by decide) ?_
          refine wp_aload_n 0 dX7_takeDeed_91 rfl rfl ?_
          obtain ⟨i21, hb⟩ := hb
          refine wp_getR dX7_takeDeed_92 fl_X7_64 i1 (i21.ne (by decide)) ?_
          obtain ⟨i22, hb⟩ := hb
          refine wp_getR dX7_takeDeed_95 fl_X7_263 i21 (i22.ne (by decide)) ?_
          refine wp_aload_n 0 dX7_takeDeed_98 rfl rfl ?_
          refine wp_getI dX7_takeDeed_99 fl_X7_45 i1 ?_
          refine wp_aload_n 0 dX7_takeDeed_102 rfl rfl ?_
          refine wp_getI dX7_takeDeed_103 fl_X7_42 i1 ?_
          refine wp_iconst (v := 0) dX7_takeDeed_106 (by decide) ?_
          refine wp_iconst (v := 0) dX7_takeDeed_107 (by decide) ?_
          refine wp_callVN (as := [.int (h5.1 x0 10), .int (h5.1 x0 9), .int 0, .int 0]) dX7_takeDeed_108 cb_X5_add lk_X7_268 im_X5_add se_X5_add rfl (Nat.le_of_ble_eq_true rfl) ⟨by decide, by decide⟩ ⟨Nat.le_refl _, Nat.le_refl _, Nat.le_refl _⟩ i22 rfl (by decide) hb (fun r0 h24 hb => ?_)
          obtain ⟨r25, rfl, hb⟩ := hb
          refine wp_pop dX7_takeDeed_111 rfl ?_
          refine wp_aload_n 0 dX7_takeDeed_112 rfl rfl ?_
          refine wp_bipush (v := 21) dX7_takeDeed_113 (by decide) ?_
          refine wp_callV (as := [.int 21]) dX7_takeDeed_115 cb_X7_awaits lk_X7_131 im_X7_awaits se_X7_awaits rfl (Nat.le_of_ble_eq_true rfl) ⟨by decide, by decide⟩ ⟨Nat.le_refl _, Nat.le_refl _, Nat.le_refl _⟩ i1 rfl (by decide) hb (fun r0 h27 hb => ?_)
          obtain ⟨r28, rfl, hb⟩ := hb
          obtain ⟨q29, hb⟩ := hb
          exact wp_zret rfl dX7_takeDeed_118 q29 ⟨_, rfl, hb⟩
        · have hb := hb.2 c20
          refine wp_case 2 (fun c30 => ?_) (fun c30 => ?_)
          · have hb := hb.1 c30
            refine wp_tableIn (v := 2) (tgt := 126) dX7_takeDeed_51 c30 (by decide) (by decide) rfl (by decide) ?_
            refine wp_aload_n 0 dX7_takeDeed_126 rfl rfl ?_
            refine wp_bipush (v := 19) dX7_takeDeed_127 (by decide) ?_
            refine wp_callV (as := [.int 19]) dX7_takeDeed_129 cb_X7_awaits lk_X7_131 im_X7_awaits se_X7_awaits rfl (Nat.le_of_ble_eq_true rfl) ⟨by decide, by decide⟩ ⟨Nat.le_refl _, Nat.le_refl _, Nat.le_refl _⟩ i1 rfl (by decide) hb (fun r0 h32 hb => ?_)
            obtain ⟨r33, rfl, hb⟩ := hb
            obtain ⟨q34, hb⟩ := hb
            exact wp_zret rfl dX7_takeDeed_132 q34 ⟨_, rfl, hb⟩
          · have hb := hb.2 c30
            refine wp_case 3 (fun c35 => ?_) (fun c35 => ?_)
            · have hb := hb.1 c35
              refine wp_tableIn (v := 3) (tgt := 126) dX7_takeDeed_51 c35 (by decide) (by decide) rfl (by decide) ?_
              refine wp_aload_n 0 dX7_takeDeed_126 rfl rfl ?_
              refine wp_bipush (v := 19) dX7_takeDeed_127 (by decide) ?_
              refine wp_callV (as := [.int 19]) dX7_takeDeed_129 cb_X7_awaits lk_X7_131 im_X7_awaits se_X7_awaits rfl (Nat.le_of_ble_eq_true rfl) ⟨by decide, by decide⟩ ⟨Nat.le_refl _, Nat.le_refl _, Nat.le_refl _⟩ i1 rfl (by decide) hb (fun r0 h37 hb => ?_)
              obtain ⟨r38, rfl, hb⟩ := hb
              obtain ⟨q39, hb⟩ := hb
              exact wp_zret rfl dX7_takeDeed_132 q39 ⟨_, rfl, hb⟩
            · have hb := hb.2 c35
              refine wp_case 4 (fun c40 => ?_) (fun c40 => ?_)
              · have hb := hb.1 c40
                refine wp_tableIn (v := 4) (tgt := 119) dX7_takeDeed_51 c40 (by decide) (by decide) rfl (by decide) ?_
                refine wp_aload_n 0 dX7_takeDeed_119 rfl rfl ?_
                refine wp_bipush (v := 20) dX7_takeDeed_120 (by decide) ?_
                refine wp_callV (as := [.int 20]) dX7_takeDeed_122 cb_X7_awaits lk_X7_131 im_X7_awaits se_X7_awaits rfl (Nat.le_of_ble_eq_true rfl) ⟨by decide, by decide⟩ ⟨Nat.le_refl _, Nat.le_refl _, Nat.le_refl _⟩ i1 rfl (by decide) hb (fun r0 h42 hb => ?_)
                obtain ⟨r43, rfl, hb⟩ := hb
                obtain ⟨q44, hb⟩ := hb
                exact wp_zret rfl dX7_takeDeed_125 q44 ⟨_, rfl, hb⟩
              · have hb := hb.2 c40
                refine wp_tableOut (tgt := 126) dX7_takeDeed_51 (by have zc15 := lv_neT (k := 0) (a := 0) c15 rfl; have zc20 := lv_neT (k := 1) (a := 1) c20 rfl; have zc30 := lv_neT (k := 2) (a := 2) c30 rfl; have zc35 := lv_neT (k := 3) (a := 3) c35 rfl; have zc40 := lv_neT (k := 4) (a := 4) c40 rfl; omega) (by decide) ?_
                refine wp_aload_n 0 dX7_takeDeed_126 rfl rfl ?_
                refine wp_bipush (v := 19) dX7_takeDeed_127 (by decide) ?_
                refine wp_callV (as := [.int 19]) dX7_takeDeed_129 cb_X7_awaits lk_X7_131 im_X7_awaits se_X7_awaits rfl (Nat.le_of_ble_eq_true rfl) ⟨by decide, by decide⟩ ⟨Nat.le_refl _, Nat.le_refl _, Nat.le_refl _⟩ i1 rfl (by decide) hb (fun r0 h46 hb => ?_)
                obtain ⟨r47, rfl, hb⟩ := hb
                obtain ⟨q48, hb⟩ := hb
                exact wp_zret rfl dX7_takeDeed_132 q48 ⟨_, rfl, hb⟩
    · have hb := hb.2 c14
      refine wp_aload_n 0 dX7_takeDeed_41 rfl rfl ?_
      refine wp_iconst (v := 5) dX7_takeDeed_42 (by decide) ?_
      refine wp_callV (as := [.int 5]) dX7_takeDeed_43 cb_X7_faulty lk_X7_90 im_X7_faulty se_X7_faulty rfl (Nat.le_of_ble_eq_true rfl) ⟨by decide, by decide⟩ ⟨Nat.le_refl _, Nat.le_refl _, Nat.le_refl _⟩ i1 rfl (by decide) hb (fun r0 h50 hb => ?_)
      obtain ⟨r51, rfl, hb⟩ := hb
      obtain ⟨q52, hb⟩ := hb
      exact wp_zret rfl dX7_takeDeed_46 q52 ⟨_, rfl, hb⟩
  · have hb := hb.2 c7
    refine wp_aload_n 0 dX7_takeDeed_16 rfl rfl ?_
    refine wp_iconst (v := 1) dX7_takeDeed_17 (by decide) ?_
    refine wp_callV (as := [.int 1]) dX7_takeDeed_18 cb_X7_faulty lk_X7_90 im_X7_faulty se_X7_faulty rfl (Nat.le_of_ble_eq_true rfl) ⟨by decide, by decide⟩ ⟨Nat.le_refl _, Nat.le_refl _, Nat.le_refl _⟩ i1 rfl (by decide) hb (fun r0 h54 hb => ?_)
    obtain ⟨r55, rfl, hb⟩ := hb
    obtain ⟨q56, hb⟩ := hb
    exact wp_zret rfl dX7_takeDeed_21 q56 ⟨_, rfl, hb⟩
theorem c_X7_takeDeed {l : Launch} {g : AG} {h : AH} {x0 : Nat}  {Q : Int32 → AH → Prop} (hb : L_X7_takeDeed_0 l g h x0  Q) : C_X7_takeDeed l g h x0  Q := ax_met rfl (Nat.le_of_ble_eq_true rfl) hb
