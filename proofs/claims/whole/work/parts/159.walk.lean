def C_X12_map (l : Launch) (g : AG) (h : AH) (x0 : Nat) (x1 : Int32)  (Q : Int32 → AH → Prop) : Prop := Ct l g mX12_map 3 77 194 194 h [.ref x0, .int x1] (ax_QI Q)
def L_X12_map_0 (l : Launch) (g : AG) (h : AH) (x0 : Nat) (x1 : Int32)  (Q : Int32 → AH → Prop) : Prop := Wp l g mX12_map 3 77 194 194 194 0 [(0, .ref x0), (1, .int x1)] [] h (FM g 194 194 (ax_QI Q))
def L_X12_map_48 (l : Launch) (g : AG) (h : AH) (x0 : Nat) (x1 : Int32) (x2 : Nat) (x3 : Int32)  (Q : Int32 → AH → Prop) : Prop := Wp l g mX12_map 3 77 194 194 194 48 [(0, .ref x0), (1, .int x1), (2, .ref x2), (3, .int x3)] [] h (FM g 194 194 (ax_QI Q))
def L_X12_map_86 (l : Launch) (g : AG) (h : AH) (x0 : Nat) (x1 : Int32) (x2 : Nat) (x3 : Int32) (x4 : Int32)  (Q : Int32 → AH → Prop) : Prop := Wp l g mX12_map 3 77 194 194 194 86 [(0, .ref x0), (1, .int x1), (2, .ref x2), (3, .int x3), (4, .int x4)] [] h (FM g 194 194 (ax_QI Q))
def L_X12_map_188 (l : Launch) (g : AG) (h : AH) (x0 : Nat) (x1 : Int32) (x2 : Nat) (x3 : Int32) (x4 : Int32) (x5 : Int32)  (Q : Int32 → AH → Prop) : Prop := Wp l g mX12_map 3 77 194 194 194 188 [(0, .ref x0), (1, .int x1), (2, .ref x2), (3, .int x3), (4, .int x4), (5, .int x5)] [] h (FM g 194 194 (ax_QI Q))
def L_X12_map_207 (l : Launch) (g : AG) (h : AH) (x0 : Nat) (x1 : Int32) (x2 : Nat) (x3 : Int32) (x4 : Int32) (x5 : Int32)  (Q : Int32 → AH → Prop) : Prop := Wp l g mX12_map 3 77 194 194 194 207 [(0, .ref x0), (1, .int x1), (2, .ref x2), (3, .int x3), (4, .int x4), (5, .int x5)] [] h (FM g 194 194 (ax_QI Q))
set_option maxRecDepth 100000 in
set_option maxHeartbeats 4000000 in
theorem s_X12_map_0 {l : Launch} {g : AG} {h : AH} {x0 : Nat} {x1 : Int32}  {Q : Int32 → AH → Prop} (hb : (Is 194 x0 11) ∧ ( ∀ h2 : AH, h2 = ax_setI h x0 0 0 → ( C_X12_isApp l g h2 x0 x1 (fun r6 h5 => ( ((¬ r6 = 0 → ((Is 194 (h5.2.2 x0 4) 25) ∧ ( (vp_in x1 (ax_s (h5.2.2 x0 4)).2) ∧ ( (Is 194 (h5.2.2 (h5.2.2 x0 4) x1.toNatClampNeg) 9) ∧ ( ∀ v11 : Nat, v11 = (h5.2.2 (h5.2.2 x0 4) x1.toNatClampNeg) → ( ∀ h14 : AH, h14 = ax_setI h5 x0 25 0 → ( ∀ h16 : AH, h16 = ax_setI h14 x0 24 (-1) → ( C_X12_begins l g h16 x0 (fun h19 => ( C_X12_meets l g h19 x0 (-1) (-1) (fun h21 => ( L_X12_map_48 l g h21 x0 x1 v11 0  Q)))))))))))) ∧ (r6 = 0 → (C_X12_refused l g h5 x0 1 (fun r24 h23 => ( Q r24 h23)))))))))) : L_X12_map_0 l g h x0 x1  Q := by
  obtain ⟨i1, hb⟩ := hb
  refine wp_aload_n 0 dX12_map_0 rfl rfl ?_
  refine wp_iconst (v := 0) dX12_map_1 (by decide) ?_
  refine wp_putI dX12_map_2 fl_X12_1 (Or.inl rfl) i1 ?_
  refine wp_topH (fun h2 e3 => ?_)
  have hb := hb h2 e3
  refine wp_aload_n 0 dX12_map_5 rfl rfl ?_
  refine wp_iload_n 1 dX12_map_6 rfl rfl ?_
  refine wp_callV (as := [.int x1]) dX12_map_7 cb_X12_isApp lk_X12_340 im_X12_isApp se_X12_isApp rfl (Nat.le_of_ble_eq_true rfl) ⟨by decide, by decide⟩ ⟨Nat.le_refl _, Nat.le_refl _, Nat.le_refl _⟩ i1 rfl (by decide) hb (fun r0 h5 hb => ?_)
  obtain ⟨r6, rfl, hb⟩ := hb
  refine wp_if_ne (tgt := 19) dX12_map_10 (by decide) (fun c7 => ?_) (fun c7 => ?_)
  · have hb := hb.1 c7
    refine wp_aload_n 0 dX12_map_19 rfl rfl ?_
    obtain ⟨i8, hb⟩ := hb
    refine wp_getR dX12_map_20 fl_X12_21 i1 (i8.ne (by decide)) ?_
    refine wp_iload_n 1 dX12_map_23 rfl rfl ?_
    obtain ⟨b9, hb⟩ := hb
    obtain ⟨i10, hb⟩ := hb
    refine wp_aaload25 dX12_map_24 i8 b9 (i10.ne (by decide)) ?_
    refine wp_topr (fun v11 e12 => ?_)
    have hb := hb v11 e12
    have i13 : Is 194 v11 9 := by rw [e12]; exact i10
    refine wp_astore_n (lv2 := [(2, .ref v11), (0, .ref x0), (1, .int x1)]) dX12_map_25 rfl (by decide) rfl ?_
    refine wp_aload_n 1 dX12_map_26 rfl rfl ?_
    refine wp_iconst (v := 0) dX12_map_27 (by decide) ?_
    refine wp_putI dX12_map_28 fl_X12_334 (Or.inl rfl) i1 ?_
    refine wp_topH (fun h14 e15 => ?_)
    have hb := hb h14 e15
    refine wp_aload_n 1 dX12_map_31 rfl rfl ?_
    refine wp_iconst (v := (-1)) dX12_map_32 (by decide) ?_
    refine wp_putI dX12_map_33 fl_X12_62 (Or.inl rfl) i1 ?_
    refine wp_topH (fun h16 e17 => ?_)
    have hb := hb h16 e17
    refine wp_aload_n 1 dX12_map_36 rfl rfl ?_
    refine wp_callV (as := []) dX12_map_37 cb_X12_begins lk_X12_324 im_X12_begins se_X12_begins rfl (Nat.le_of_ble_eq_true rfl) ⟨by decide, by decide⟩ ⟨Nat.le_refl _, Nat.le_refl _, Nat.le_refl _⟩ i1 rfl (by decide) hb (fun r0 h19 hb => ?_)
    obtain ⟨rfl, hb⟩ := hb
    refine wp_aload_n 1 dX12_map_40 rfl rfl ?_
    refine wp_iconst (v := (-1)) dX12_map_41 (by decide) ?_
    refine wp_iconst (v := (-1)) dX12_map_42 (by decide) ?_
    refine wp_callV (as := [.int (-1), .int (-1)]) dX12_map_43 cb_X12_meets lk_X12_390 im_X12_meets se_X12_meets rfl (Nat.le_of_ble_eq_true rfl) ⟨by decide, by decide⟩ ⟨Nat.le_refl _, Nat.le_refl _, Nat.le_refl _⟩ i1 rfl (by decide) hb (fun r0 h21 hb => ?_)
    obtain ⟨rfl, hb⟩ := hb
    refine wp_iconst (v := 0) dX12_map_46 (by decide) ?_
    refine wp_istore_n (lv2 := [(3, .int 0), (2, .ref v11), (0, .ref x0), (1, .int x1)]) dX12_map_47 rfl (by decide) rfl ?_
    exact wp_sub [2, 3, 1, 0] rfl hb
  · have hb := hb.2 c7
    refine wp_aload_n 0 dX12_map_13 rfl rfl ?_
    refine wp_iconst (v := 1) dX12_map_14 (by decide) ?_
    refine wp_callV (as := [.int 1]) dX12_map_15 cb_X12_refused lk_X12_316 im_X12_refused se_X12_refused rfl (Nat.le_of_ble_eq_true rfl) ⟨by decide, by decide⟩ ⟨Nat.le_refl _, Nat.le_refl _, Nat.le_refl _⟩ i1 rfl (by decide) hb (fun r0 h23 hb => ?_)
    obtain ⟨r24, rfl, hb⟩ := hb
    exact wp_iret rfl dX12_map_18 ⟨_, rfl, hb⟩
set_option maxRecDepth 100000 in
set_option maxHeartbeats 4000000 in
theorem s_X12_map_48 {l : Launch} {g : AG} {h : AH} {x0 : Nat} {x1 : Int32} {x2 : Nat} {x3 : Int32}  {Q : Int32 → AH → Prop} (hb : (Is 194 x0 11) ∧ ( ((h.1 x0 25 ≤ x3 → (∀ h27 : AH, h27 = ax_setI h x0 24 x1 → ( C_X12_parts l g h27 x0 (fun h30 => ( C_X12_done l g h30 x0 (h30.1 x0 25) (fun r33 h32 => ( Q r33 h32))))))) ∧ (¬ (h.1 x0 25 ≤ x3) → ((Is 194 (h.2.2 x0 26) 21) ∧ ( (vp_in x3 (ax_s (h.2.2 x0 26)).2) ∧ ( (Is 194 (h.2.2 x0 27) 21) ∧ ( (vp_in x3 (ax_s (h.2.2 x0 27)).2) ∧ ( C_X12_unpack l g h x0 (h.2.1 (h.2.2 x0 26) x3.toNatClampNeg) (h.2.1 (h.2.2 x0 27) x3.toNatClampNeg) (fun h39 => ( (Is 194 (h39.2.2 x0 31) 20) ∧ ( (Is 194 x2 9) ∧ ( C_X12_possible l g h39 x0 x2 (fun r44 h43 => ( (vp_in x3 (ax_s (h39.2.2 x0 31)).2) ∧ ( ∀ h46 : AH, h46 = ax_setI h43 (h39.2.2 x0 31) x3.toNatClampNeg r44 → ( L_X12_map_86 l g h46 x0 x1 x2 x3 0  Q))))))))))))))))) : L_X12_map_48 l g h x0 x1 x2 x3  Q := by
  refine wp_iload_n 3 dX12_map_48 rfl rfl ?_
  obtain ⟨i25, hb⟩ := hb
  refine wp_aload_n 0 dX12_map_49 rfl rfl ?_
  refine wp_getI dX12_map_50 fl_X12_334 i25 ?_
  refine wp_icmp_ge (tgt := 233) dX12_map_53 (by decide) (fun c26 => ?_) (fun c26 => ?_)
  · have hb := hb.1 c26
    refine wp_aload_n 0 dX12_map_233 rfl rfl ?_
    refine wp_iload_n 1 dX12_map_234 rfl rfl ?_
    refine wp_putI dX12_map_235 fl_X12_62 (Or.inl rfl) i25 ?_
    refine wp_topH (fun h27 e28 => ?_)
    have hb := hb h27 e28
    refine wp_aload_n 0 dX12_map_238 rfl rfl ?_
    refine wp_callV (as := []) dX12_map_239 cb_X12_parts lk_X12_398 im_X12_parts se_X12_parts rfl (Nat.le_of_ble_eq_true rfl) ⟨by decide, by decide⟩ ⟨Nat.le_refl _, Nat.le_refl _, Nat.le_refl _⟩ i25 rfl (by decide) hb (fun r0 h30 hb => ?_)
    obtain ⟨rfl, hb⟩ := hb
    refine wp_aload_n 0 dX12_map_242 rfl rfl ?_
    refine wp_aload_n 0 dX12_map_243 rfl rfl ?_
    refine wp_getI dX12_map_244 fl_X12_334 i25 ?_
    refine wp_callV (as := [.int (h30.1 x0 25)]) dX12_map_247 cb_X12_done lk_X12_337 im_X12_done se_X12_done rfl (Nat.le_of_ble_eq_true rfl) ⟨by decide, by decide⟩ ⟨Nat.le_refl _, Nat.le_refl _, Nat.le_refl _⟩ i25 rfl (by decide) hb (fun r0 h32 hb => ?_)
    obtain ⟨r33, rfl, hb⟩ := hb
    exact wp_iret rfl dX12_map_250 ⟨_, rfl, hb⟩
  · have hb := hb.2 c26
    refine wp_aload_n 0 dX12_map_56 rfl rfl ?_
    refine wp_aload_n 0 dX12_map_57 rfl rfl ?_
    obtain ⟨i34, hb⟩ := hb
    refine wp_getR dX12_map_58 fl_X12_65 i25 (i34.ne (by decide)) ?_
    refine wp_iload_n 3 dX12_map_61 rfl rfl ?_
    obtain ⟨b35, hb⟩ := hb
    refine wp_laload dX12_map_62 i34 b35 ?_
    refine wp_aload_n 0 dX12_map_63 rfl rfl ?_
    obtain ⟨i36, hb⟩ := hb
    refine wp_getR dX12_map_64 fl_X12_68 i25 (i36.ne (by decide)) ?_
    refine wp_iload_n 3 dX12_map_67 rfl rfl ?_
    obtain ⟨b37, hb⟩ := hb
    refine wp_laload dX12_map_68 i36 b37 ?_
    refine wp_callV (as := [.long (h.2.1 (h.2.2 x0 26) x3.toNatClampNeg), .long (h.2.1 (h.2.2 x0 27) x3.toNatClampNeg)]) dX12_map_69 cb_X12_unpack lk_X12_377 im_X12_unpack se_X12_unpack rfl (Nat.le_of_ble_eq_true rfl) ⟨by decide, by decide⟩ ⟨Nat.le_refl _, Nat.le_refl _, Nat.le_refl _⟩ i25 rfl (by decide) hb (fun r0 h39 hb => ?_)
    obtain ⟨rfl, hb⟩ := hb
    refine wp_aload_n 0 dX12_map_72 rfl rfl ?_
    obtain ⟨i40, hb⟩ := hb
    refine wp_getR dX12_map_73 fl_X12_80 i25 (i40.ne (by decide)) ?_
    refine wp_iload_n 3 dX12_map_76 rfl rfl ?_
    refine wp_aload_n 0 dX12_map_77 rfl rfl ?_
    obtain ⟨i41, hb⟩ := hb
    refine wp_aload_n 2 dX12_map_78 rfl rfl ?_
    refine wp_callV (as := [.ref x2]) dX12_map_79 cb_X12_possible lk_X12_381 im_X12_possible se_X12_possible rfl (Nat.le_of_ble_eq_true rfl) ⟨by decide, by decide⟩ ⟨Nat.le_refl _, Nat.le_refl _, Nat.le_refl _⟩ i25 rfl (by decide) hb (fun r0 h43 hb => ?_)
    obtain ⟨r44, rfl, hb⟩ := hb
    obtain ⟨b45, hb⟩ := hb
    refine wp_iastore dX12_map_82 i40 b45 ?_
    refine wp_topH (fun h46 e47 => ?_)
    have hb := hb h46 e47
    refine wp_iconst (v := 0) dX12_map_83 (by decide) ?_
    refine wp_istore (lv2 := [(4, .int 0), (0, .ref x0), (1, .int x1), (2, .ref x2), (3, .int x3)]) dX12_map_84 (by decide) rfl ?_
    exact wp_sub [1, 2, 3, 4, 0] rfl hb
set_option maxRecDepth 100000 in
set_option maxHeartbeats 4000000 in
theorem s_X12_map_86 {l : Launch} {g : AG} {h : AH} {x0 : Nat} {x1 : Int32} {x2 : Nat} {x3 : Int32} {x4 : Int32}  {Q : Int32 → AH → Prop} (hb : ((27 ≤ x4 → (∀ v49 : Int32, v49 = x3 + (1) → ( L_X12_map_48 l g h x0 x1 x2 v49  Q))) ∧ (¬ (27 ≤ x4) → ((Is 194 x0 11) ∧ ( (Is 194 (h.2.2 x0 35) 20) ∧ ( (vp_in ((27 * x3) + x4) (ax_s (h.2.2 x0 35)).2) ∧ ( ∀ h54 : AH, h54 = ax_setI h (h.2.2 x0 35) ((27 * x3) + x4).toNatClampNeg (-2) → ( (Is 194 (h54.2.2 x0 31) 20) ∧ ( (vp_in x3 (ax_s (h54.2.2 x0 31)).2) ∧ ( ∀ v58 : Int32, v58 = (jishr (h54.1 (h54.2.2 x0 31) x3.toNatClampNeg) x4) → ( ((¬ v58 &&& 1 = 0 → ((Is 194 (h54.2.2 x0 26) 21) ∧ ( (vp_in x3 (ax_s (h54.2.2 x0 26)).2) ∧ ( (Is 194 (h54.2.2 x0 27) 21) ∧ ( (vp_in x3 (ax_s (h54.2.2 x0 27)).2) ∧ ( C_X12_unpack l g h54 x0 (h54.2.1 (h54.2.2 x0 26) x3.toNatClampNeg) (h54.2.1 (h54.2.2 x0 27) x3.toNatClampNeg) (fun h66 => ( (Is 194 x2 9) ∧ ( C_X12_acts l g h66 x0 x2 x4 (fun h69 => ( C_X12_packed l g h69 x0 (fun r72 h71 => ( C_X12_packedVars l g h71 x0 (fun r75 h74 => ( C_X12_stateOf l g h74 x0 r72 r75 (fun r78 h77 => ( ((¬ r78 = (-1) → (L_X12_map_188 l g h77 x0 x1 x2 x3 x4 r78  Q)) ∧ (r78 = (-1) → (((¬ h77.1 x0 25 = 400 → (L_X12_map_188 l g h77 x0 x1 x2 x3 x4 r78  Q)) ∧ (h77.1 x0 25 = 400 → (∀ h81 : AH, h81 = ax_setI h77 x0 25 0 → ( C_X12_refused l g h81 x0 5 (fun r85 h84 => ( Q r85 h84)))))))))))))))))))))))))) ∧ (v58 &&& 1 = 0 → (∀ v86 : Int32, v86 = x4 + (1) → ( L_X12_map_86 l g h54 x0 x1 x2 x3 v86  Q))))))))))))))) : L_X12_map_86 l g h x0 x1 x2 x3 x4  Q := by
  refine wp_iload 4 dX12_map_86 rfl ?_
  refine wp_bipush (v := 27) dX12_map_88 (by decide) ?_
  refine wp_icmp_ge (tgt := 227) dX12_map_90 (by decide) (fun c48 => ?_) (fun c48 => ?_)
  · have hb := hb.1 c48
    obtain ⟨v49, e50⟩ : ∃ y : Int32, y = x3 + (1) := ⟨_, rfl⟩
    have hb := hb v49 e50
    refine wp_iinc (v := v49) (lv2 := [(3, .int v49), (0, .ref x0), (1, .int x1), (2, .ref x2), (4, .int x4)]) 3 dX12_map_227 rfl (by rw [e50]; rfl) (by decide) rfl ?_
    refine wp_goto (tgt := 48) dX12_map_230 (by decide) ?_
    exact wp_sub [1, 2, 3, 0] rfl hb
  · have hb := hb.2 c48
    obtain ⟨i51, hb⟩ := hb
    refine wp_aload_n 0 dX12_map_93 rfl rfl ?_
    obtain ⟨i52, hb⟩ := hb
    refine wp_getR dX12_map_94 fl_X12_92 i51 (i52.ne (by decide)) ?_
    refine wp_bipush (v := 27) dX12_map_97 (by decide) ?_
    refine wp_iload_n 3 dX12_map_99 rfl rfl ?_
    refine wp_imul dX12_map_100 ?_
    refine wp_iload 4 dX12_map_101 rfl ?_
    refine wp_iadd dX12_map_103 ?_
    refine wp_bipush (v := (-2)) dX12_map_104 (by decide) ?_
    obtain ⟨b53, hb⟩ := hb
    refine wp_iastore dX12_map_106 i52 b53 ?_
    refine wp_topH (fun h54 e55 => ?_)
    have hb := hb h54 e55
    refine wp_aload_n 0 dX12_map_107 rfl rfl ?_
    obtain ⟨i56, hb⟩ := hb
    refine wp_getR dX12_map_108 fl_X12_80 i51 (i56.ne (by decide)) ?_
    refine wp_iload_n 3 dX12_map_111 rfl rfl ?_
    obtain ⟨b57, hb⟩ := hb
    refine wp_iaload dX12_map_112 i56 b57 ?_
    refine wp_iload 4 dX12_map_113 rfl ?_
    refine wp_ishr dX12_map_115 ?_
    refine wp_topi (fun v58 e59 => ?_)
    have hb := hb v58 e59
    refine wp_iconst (v := 1) dX12_map_116 (by decide) ?_
    refine wp_iand dX12_map_117 ?_
    refine wp_if_ne (tgt := 124) dX12_map_118 (by decide) (fun c60 => ?_) (fun c60 => ?_)
    · have hb := hb.1 c60
      refine wp_aload_n 0 dX12_map_124 rfl rfl ?_
      refine wp_aload_n 0 dX12_map_125 rfl rfl ?_
      obtain ⟨i61, hb⟩ := hb
      refine wp_getR dX12_map_126 fl_X12_65 i51 (i61.ne (by decide)) ?_
      refine wp_iload_n 3 dX12_map_129 rfl rfl ?_
      obtain ⟨b62, hb⟩ := hb
      refine wp_laload dX12_map_130 i61 b62 ?_
      refine wp_aload_n 0 dX12_map_131 rfl rfl ?_
      obtain ⟨i63, hb⟩ := hb
      refine wp_getR dX12_map_132 fl_X12_68 i51 (i63.ne (by decide)) ?_
      refine wp_iload_n 3 dX12_map_135 rfl rfl ?_
      obtain ⟨b64, hb⟩ := hb
      refine wp_laload dX12_map_136 i63 b64 ?_
      refine wp_callV (as := [.long (h54.2.1 (h54.2.2 x0 26) x3.toNatClampNeg), .long (h54.2.1 (h54.2.2 x0 27) x3.toNatClampNeg)]) dX12_map_137 cb_X12_unpack lk_X12_377 im_X12_unpack se_X12_unpack rfl (Nat.le_of_ble_eq_true rfl) ⟨by decide, by decide⟩ ⟨Nat.le_refl _, Nat.le_refl _, Nat.le_refl _⟩ i51 rfl (by decide) hb (fun r0 h66 hb => ?_)
      obtain ⟨rfl, hb⟩ := hb
      refine wp_aload_n 0 dX12_map_140 rfl rfl ?_
      obtain ⟨i67, hb⟩ := hb
      refine wp_aload_n 2 dX12_map_141 rfl rfl ?_
      refine wp_iload 4 dX12_map_142 rfl ?_
      refine wp_callV (as := [.ref x2, .int x4]) dX12_map_144 cb_X12_acts lk_X12_384 im_X12_acts se_X12_acts rfl (Nat.le_of_ble_eq_true rfl) ⟨by decide, by decide⟩ ⟨Nat.le_refl _, Nat.le_refl _, Nat.le_refl _⟩ i51 rfl (by decide) hb (fun r0 h69 hb => ?_)
      obtain ⟨rfl, hb⟩ := hb
      refine wp_aload_n 0 dX12_map_147 rfl rfl ?_
      refine wp_aload_n 0 dX12_map_148 rfl rfl ?_
      refine wp_callV (as := []) dX12_map_149 cb_X12_packed lk_X12_327 im_X12_packed se_X12_packed rfl (Nat.le_of_ble_eq_true rfl) ⟨by decide, by decide⟩ ⟨Nat.le_refl _, Nat.le_refl _, Nat.le_refl _⟩ i51 rfl (by decide) hb (fun r0 h71 hb => ?_)
      obtain ⟨r72, rfl, hb⟩ := hb
      refine wp_aload_n 0 dX12_map_152 rfl rfl ?_
      refine wp_callV (as := []) dX12_map_153 cb_X12_packedVars lk_X12_331 im_X12_packedVars se_X12_packedVars rfl (Nat.le_of_ble_eq_true rfl) ⟨by decide, by decide⟩ ⟨Nat.le_refl _, Nat.le_refl _, Nat.le_refl _⟩ i51 rfl (by decide) hb (fun r0 h74 hb => ?_)
      obtain ⟨r75, rfl, hb⟩ := hb
      refine wp_callV (as := [.long r72, .long r75]) dX12_map_156 cb_X12_stateOf lk_X12_394 im_X12_stateOf se_X12_stateOf rfl (Nat.le_of_ble_eq_true rfl) ⟨by decide, by decide⟩ ⟨Nat.le_refl _, Nat.le_refl _, Nat.le_refl _⟩ i51 rfl (by decide) hb (fun r0 h77 hb => ?_)
      obtain ⟨r78, rfl, hb⟩ := hb
      refine wp_istore (lv2 := [(5, .int r78), (0, .ref x0), (1, .int x1), (2, .ref x2), (3, .int x3), (4, .int x4)]) dX12_map_159 (by decide) rfl ?_
      refine wp_iload 0 dX12_map_161 rfl ?_
      refine wp_iconst (v := (-1)) dX12_map_163 (by decide) ?_
      refine wp_icmp_ne (tgt := 188) dX12_map_164 (by decide) (fun c79 => ?_) (fun c79 => ?_)
      · have hb := hb.1 c79
        exact wp_sub [1, 2, 3, 4, 5, 0] rfl hb
      · have hb := hb.2 c79
        refine wp_aload_n 1 dX12_map_167 rfl rfl ?_
        refine wp_getI dX12_map_168 fl_X12_334 i51 ?_
        refine wp_sipush (v := 400) dX12_map_171 (by decide) ?_
        refine wp_icmp_ne (tgt := 188) dX12_map_174 (by decide) (fun c80 => ?_) (fun c80 => ?_)
        · have hb := hb.1 c80
          exact wp_sub [1, 2, 3, 4, 5, 0] rfl hb
        · have hb := hb.2 c80
          refine wp_aload_n 1 dX12_map_177 rfl rfl ?_
          refine wp_iconst (v := 0) dX12_map_178 (by decide) ?_
          refine wp_putI dX12_map_179 fl_X12_334 (Or.inl rfl) i51 ?_
          refine wp_topH (fun h81 e82 => ?_)
          have hb := hb h81 e82
          refine wp_aload_n 1 dX12_map_182 rfl rfl ?_
          refine wp_iconst (v := 5) dX12_map_183 (by decide) ?_
          refine wp_callV (as := [.int 5]) dX12_map_184 cb_X12_refused lk_X12_316 im_X12_refused se_X12_refused rfl (Nat.le_of_ble_eq_true rfl) ⟨by decide, by decide⟩ ⟨Nat.le_refl _, Nat.le_refl _, Nat.le_refl _⟩ i51 rfl (by decide) hb (fun r0 h84 hb => ?_)
          obtain ⟨r85, rfl, hb⟩ := hb
          exact wp_iret rfl dX12_map_187 ⟨_, rfl, hb⟩
    · have hb := hb.2 c60
      refine wp_goto (tgt := 221) dX12_map_121 (by decide) ?_
      obtain ⟨v86, e87⟩ : ∃ y : Int32, y = x4 + (1) := ⟨_, rfl⟩
      have hb := hb v86 e87
      refine wp_iinc (v := v86) (lv2 := [(4, .int v86), (0, .ref x0), (1, .int x1), (2, .ref x2), (3, .int x3)]) 4 dX12_map_221 rfl (by rw [e87]; rfl) (by decide) rfl ?_
      refine wp_goto (tgt := 86) dX12_map_224 (by decide) ?_
      exact wp_sub [1, 2, 3, 4, 0] rfl hb
set_option maxRecDepth 100000 in
set_option maxHeartbeats 4000000 in
theorem s_X12_map_188 {l : Launch} {g : AG} {h : AH} {x0 : Nat} {x1 : Int32} {x2 : Nat} {x3 : Int32} {x4 : Int32} {x5 : Int32}  {Q : Int32 → AH → Prop} (hb : ((¬ x5 = (-1) → (L_X12_map_207 l g h x0 x1 x2 x3 x4 x5  Q)) ∧ (x5 = (-1) → ((Is 194 x0 11) ∧ ( ∀ v90 : Int32, v90 = (h.1 x0 25) → ( C_X12_meets l g h x0 x3 x4 (fun h93 => ( L_X12_map_207 l g h93 x0 x1 x2 x3 x4 v90  Q)))))))) : L_X12_map_188 l g h x0 x1 x2 x3 x4 x5  Q := by
  refine wp_iload 5 dX12_map_188 rfl ?_
  refine wp_iconst (v := (-1)) dX12_map_190 (by decide) ?_
  refine wp_icmp_ne (tgt := 207) dX12_map_191 (by decide) (fun c88 => ?_) (fun c88 => ?_)
  · have hb := hb.1 c88
    exact hb
  · have hb := hb.2 c88
    obtain ⟨i89, hb⟩ := hb
    refine wp_aload_n 0 dX12_map_194 rfl rfl ?_
    refine wp_getI dX12_map_195 fl_X12_334 i89 ?_
    refine wp_topi (fun v90 e91 => ?_)
    have hb := hb v90 e91
    refine wp_istore (lv2 := [(5, .int v90), (0, .ref x0), (1, .int x1), (2, .ref x2), (3, .int x3), (4, .int x4)]) dX12_map_198 (by decide) rfl ?_
    refine wp_aload_n 1 dX12_map_200 rfl rfl ?_
    refine wp_iload_n 4 dX12_map_201 rfl rfl ?_
    refine wp_iload 5 dX12_map_202 rfl ?_
    refine wp_callV (as := [.int x3, .int x4]) dX12_map_204 cb_X12_meets lk_X12_390 im_X12_meets se_X12_meets rfl (Nat.le_of_ble_eq_true rfl) ⟨by decide, by decide⟩ ⟨Nat.le_refl _, Nat.le_refl _, Nat.le_refl _⟩ i89 rfl (by decide) hb (fun r0 h93 hb => ?_)
    obtain ⟨rfl, hb⟩ := hb
    exact wp_sub [1, 2, 3, 4, 5, 0] rfl hb
set_option maxRecDepth 100000 in
set_option maxHeartbeats 4000000 in
theorem s_X12_map_207 {l : Launch} {g : AG} {h : AH} {x0 : Nat} {x1 : Int32} {x2 : Nat} {x3 : Int32} {x4 : Int32} {x5 : Int32}  {Q : Int32 → AH → Prop} (hb : (Is 194 x0 11) ∧ ( (Is 194 (h.2.2 x0 35) 20) ∧ ( (vp_in ((27 * x3) + x4) (ax_s (h.2.2 x0 35)).2) ∧ ( ∀ h97 : AH, h97 = ax_setI h (h.2.2 x0 35) ((27 * x3) + x4).toNatClampNeg x5 → ( ∀ v99 : Int32, v99 = x4 + (1) → ( L_X12_map_86 l g h97 x0 x1 x2 x3 v99  Q)))))) : L_X12_map_207 l g h x0 x1 x2 x3 x4 x5  Q := by
  obtain ⟨i94, hb⟩ := hb
  refine wp_aload_n 0 dX12_map_207 rfl rfl ?_
  obtain ⟨i95, hb⟩ := hb
  refine wp_getR dX12_map_208 fl_X12_92 i94 (i95.ne (by decide)) ?_
  refine wp_bipush (v := 27) dX12_map_211 (by decide) ?_
  refine wp_iload_n 3 dX12_map_213 rfl rfl ?_
  refine wp_imul dX12_map_214 ?_
  refine wp_iload 4 dX12_map_215 rfl ?_
  refine wp_iadd dX12_map_217 ?_
  refine wp_iload 5 dX12_map_218 rfl ?_
  obtain ⟨b96, hb⟩ := hb
  refine wp_iastore dX12_map_220 i95 b96 ?_
  refine wp_topH (fun h97 e98 => ?_)
  have hb := hb h97 e98
  obtain ⟨v99, e100⟩ : ∃ y : Int32, y = x4 + (1) := ⟨_, rfl⟩
  have hb := hb v99 e100
  refine wp_iinc (v := v99) (lv2 := [(4, .int v99), (0, .ref x0), (1, .int x1), (2, .ref x2), (3, .int x3), (5, .int x5)]) 4 dX12_map_221 rfl (by rw [e100]; rfl) (by decide) rfl ?_
  refine wp_goto (tgt := 86) dX12_map_224 (by decide) ?_
  exact wp_sub [1, 2, 3, 4, 0] rfl hb
theorem c_X12_map {l : Launch} {g : AG} {h : AH} {x0 : Nat} {x1 : Int32}  {Q : Int32 → AH → Prop} (hb : L_X12_map_0 l g h x0 x1  Q) : C_X12_map l g h x0 x1  Q := ax_met rfl (Nat.le_of_ble_eq_true rfl) hb
