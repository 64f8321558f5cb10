def C_X12_isSeen (l : Launch) (g : AG) (h : AH) (x0 : Nat) (x1 : Nat)  (Q : Int32 → AH → Prop) : Prop := Ct l g mX12_isSeen 1 27 194 194 h [.ref x0, .ref x1] (ax_QI Q)
def L_X12_isSeen_0 (l : Launch) (g : AG) (h : AH) (x0 : Nat) (x1 : Nat)  (Q : Int32 → AH → Prop) : Prop := Wp l g mX12_isSeen 1 27 194 194 194 0 [(0, .ref x0), (1, .ref x1)] [] h (FM g 194 194 (ax_QI Q))
def L_X12_isSeen_70 (l : Launch) (g : AG) (h : AH) (x0 : Nat) (x1 : Nat) (x2 : Int32) (x3 : Int32) (x4 : Int32)  (Q : Int32 → AH → Prop) : Prop := Wp l g mX12_isSeen 1 27 194 194 194 70 [(0, .ref x0), (1, .ref x1), (2, .int x2), (3, .int x3), (4, .int x4)] [] h (FM g 194 194 (ax_QI Q))
def L_X12_isSeen_135 (l : Launch) (g : AG) (h : AH) (x0 : Nat) (x1 : Nat) (x3 : Int32) (x4 : Int32) (x5 : Int32) (x6 : Int32)  (Q : Int32 → AH → Prop) : Prop := Wp l g mX12_isSeen 1 27 194 194 194 135 [(0, .ref x0), (1, .ref x1), (3, .int x3), (4, .int x4), (5, .int x5), (6, .int x6)] [] h (FM g 194 194 (ax_QI Q))
def L_X12_isSeen_199 (l : Launch) (g : AG) (h : AH) (x0 : Nat) (x3 : Int32) (x5 : Int32)  (Q : Int32 → AH → Prop) : Prop := Wp l g mX12_isSeen 1 27 194 194 194 199 [(0, .ref x0), (3, .int x3), (5, .int x5)] [] h (FM g 194 194 (ax_QI Q))
set_option maxRecDepth 100000 in
set_option maxHeartbeats 4000000 in
theorem s_X12_isSeen_0 {l : Launch} {g : AG} {h : AH} {x0 : Nat} {x1 : Nat}  {Q : Int32 → AH → Prop} (hb : (Is 194 x0 11) ∧ ( ((h.1 x0 19 = h.1 x0 50 → (((h.1 x0 19 ≤ 0 → ((Is 194 (h.2.2 x0 21) 20) ∧ ( (vp_in ((h.1 x0 20) - 1) (ax_s (h.2.2 x0 21)).2) ∧ ( ∀ v6 : Int32, v6 = (h.1 (h.2.2 x0 21) ((h.1 x0 20) - 1).toNatClampNeg) → ( (Is 194 x1 9) ∧ ( (Is 194 (h.2.2 x1 3) 21) ∧ ( (vp_in v6 (ax_s (h.2.2 x1 3)).2) ∧ ( ((¬ lg_cmp (h.2.1 (h.2.2 x1 3) v6.toNatClampNeg) (h.2.1 x0 53) = 0 → (L_X12_isSeen_70 l g h x0 x1 v6 0 0  Q)) ∧ (lg_cmp (h.2.1 (h.2.2 x1 3) v6.toNatClampNeg) (h.2.1 x0 53) = 0 → ((Is 194 (h.2.2 x1 7) 20) ∧ ( (vp_in v6 (ax_s (h.2.2 x1 7)).2) ∧ ( ((¬ h.1 (h.2.2 x1 7) v6.toNatClampNeg = h.1 x0 51 → (L_X12_isSeen_70 l g h x0 x1 v6 0 0  Q)) ∧ (h.1 (h.2.2 x1 7) v6.toNatClampNeg = h.1 x0 51 → (L_X12_isSeen_70 l g h x0 x1 v6 1 0  Q)))))))))))))))) ∧ (¬ (h.1 x0 19 ≤ 0) → (Q 1 h))))) ∧ (¬ (h.1 x0 19 = h.1 x0 50) → (Q 0 h))))) : L_X12_isSeen_0 l g h x0 x1  Q := by
  obtain ⟨i1, hb⟩ := hb
  refine wp_aload_n 0 dX12_isSeen_0 rfl rfl ?_
  refine wp_getI dX12_isSeen_1 fl_X12_343 i1 ?_
  refine wp_aload_n 0 dX12_isSeen_4 rfl rfl ?_
  refine wp_getI dX12_isSeen_5 fl_X12_425 i1 ?_
  refine wp_icmp_eq (tgt := 13) dX12_isSeen_8 (by decide) (fun c2 => ?_) (fun c2 => ?_)
  · have hb := hb.1 c2
    refine wp_aload_n 0 dX12_isSeen_13 rfl rfl ?_
    refine wp_getI dX12_isSeen_14 fl_X12_343 i1 ?_
    refine wp_if_le (tgt := 22) dX12_isSeen_17 (by decide) (fun c3 => ?_) (fun c3 => ?_)
    · have hb := hb.1 c3
      refine wp_aload_n 0 dX12_isSeen_22 rfl rfl ?_
      obtain ⟨i4, hb⟩ := hb
      refine wp_getR dX12_isSeen_23 fl_X12_52 i1 (i4.ne (by decide)) ?_
      refine wp_aload_n 0 dX12_isSeen_26 rfl rfl ?_
      refine wp_getI dX12_isSeen_27 fl_X12_346 i1 ?_
      refine wp_iconst (v := 1) dX12_isSeen_30 (by decide) ?_
      refine wp_isub dX12_isSeen_31 ?_
      obtain ⟨b5, hb⟩ := hb
      refine wp_iaload dX12_isSeen_32 i4 b5 ?_
      refine wp_topi (fun v6 e7 => ?_)
      have hb := hb v6 e7
      refine wp_istore_n (lv2 := [(2, .int v6), (0, .ref x0), (1, .ref x1)]) dX12_isSeen_33 rfl (by decide) rfl ?_
      obtain ⟨i8, hb⟩ := hb
      refine wp_aload_n 2 dX12_isSeen_34 rfl rfl ?_
      obtain ⟨i9, hb⟩ := hb
      refine wp_getR dX12_isSeen_35 fl_X12_228 i8 (i9.ne (by decide)) ?_
      refine wp_iload_n 0 dX12_isSeen_38 rfl rfl ?_
      obtain ⟨b10, hb⟩ := hb
      refine wp_laload dX12_isSeen_39 i9 b10 ?_
      refine wp_aload_n 1 dX12_isSeen_40 rfl rfl ?_
      refine wp_getL dX12_isSeen_41 fl_X12_434 i1 ?_
      refine wp_lcmp dX12_isSeen_44 ?_
      refine wp_if_ne (tgt := 65) dX12_isSeen_45 (by decide) (fun c11 => ?_) (fun c11 => ?_)
      · have hb := hb.1 c11
        refine wp_iconst (v := 0) dX12_isSeen_65 (by decide) ?_
        refine wp_istore_n (lv2 := [(3, .int 0), (2, .int v6), (0, .ref x0), (1, .ref x1)]) dX12_isSeen_66 rfl (by decide) rfl ?_
        refine wp_iconst (v := 0) dX12_isSeen_67 (by decide) ?_
        refine wp_istore (lv2 := [(4, .int 0), (3, .int 0), (2, .int v6), (0, .ref x0), (1, .ref x1)]) dX12_isSeen_68 (by decide) rfl ?_
        exact wp_sub [3, 4, 2, 1, 0] rfl hb
      · have hb := hb.2 c11
        refine wp_aload_n 2 dX12_isSeen_48 rfl rfl ?_
        obtain ⟨i12, hb⟩ := hb
        refine wp_getR dX12_isSeen_49 fl_X12_252 i8 (i12.ne (by decide)) ?_
        refine wp_iload_n 0 dX12_isSeen_52 rfl rfl ?_
        obtain ⟨b13, hb⟩ := hb
        refine wp_iaload dX12_isSeen_53 i12 b13 ?_
        refine wp_aload_n 1 dX12_isSeen_54 rfl rfl ?_
        refine wp_getI dX12_isSeen_55 fl_X12_428 i1 ?_
        refine wp_icmp_ne (tgt := 65) dX12_isSeen_58 (by decide) (fun c14 => ?_) (fun c14 => ?_)
        · have hb := hb.1 c14
          refine wp_iconst (v := 0) dX12_isSeen_65 (by decide) ?_
          refine wp_istore_n (lv2 := [(3, .int 0), (2, .int v6), (0, .ref x0), (1, .ref x1)]) dX12_isSeen_66 rfl (by decide) rfl ?_
          refine wp_iconst (v := 0) dX12_isSeen_67 (by decide) ?_
          refine wp_istore (lv2 := [(4, .int 0), (3, .int 0), (2, .int v6), (0, .ref x0), (1, .ref x1)]) dX12_isSeen_68 (by decide) rfl ?_
          exact wp_sub [3, 4, 2, 1, 0] rfl hb
        · have hb := hb.2 c14
          refine wp_iconst (v := 1) dX12_isSeen_61 (by decide) ?_
          refine wp_goto (tgt := 66) dX12_isSeen_62 (by decide) ?_
          refine wp_istore_n (lv2 := [(3, .int 1), (2, .int v6), (0, .ref x0), (1, .ref x1)]) dX12_isSeen_66 rfl (by decide) rfl ?_
          refine wp_iconst (v := 0) dX12_isSeen_67 (by decide) ?_
          refine wp_istore (lv2 := [(4, .int 0), (3, .int 1), (2, .int v6), (0, .ref x0), (1, .ref x1)]) dX12_isSeen_68 (by decide) rfl ?_
          exact wp_sub [3, 4, 2, 1, 0] rfl hb
    · have hb := hb.2 c3
      refine wp_iconst (v := 1) dX12_isSeen_20 (by decide) ?_
      exact wp_zret rfl dX12_isSeen_21 (Or.inr rfl) ⟨_, rfl, hb⟩
  · have hb := hb.2 c2
    refine wp_iconst (v := 0) dX12_isSeen_11 (by decide) ?_
    exact wp_zret rfl dX12_isSeen_12 (Or.inl rfl) ⟨_, rfl, hb⟩
set_option maxRecDepth 100000 in
set_option maxHeartbeats 4000000 in
theorem s_X12_isSeen_70 {l : Launch} {g : AG} {h : AH} {x0 : Nat} {x1 : Nat} {x2 : Int32} {x3 : Int32} {x4 : Int32}  {Q : Int32 → AH → Prop} (hb : (Is 194 x0 11) ∧ ( ((h.1 x0 51 ≤ x4 → ((Is 194 x1 9) ∧ ( C_X12_pressed l g h x0 x1 (fun r20 h19 => ( L_X12_isSeen_135 l g h19 x0 x1 x3 r20 0 0  Q))))) ∧ (¬ (h.1 x0 51 ≤ x4) → (((x3 = 0 → ((Is 194 x1 9) ∧ ( C_X12_pressed l g h x0 x1 (fun r25 h24 => ( L_X12_isSeen_135 l g h24 x0 x1 x3 r25 0 0  Q))))) ∧ (¬ (x3 = 0) → ((Is 194 (h.2.2 x0 23) 20) ∧ ( (Is 194 x1 9) ∧ ( (Is 194 (h.2.2 x1 8) 20) ∧ ( (vp_in ((6 * x2) + x4) (ax_s (h.2.2 x1 8)).2) ∧ ( (vp_in (h.1 (h.2.2 x1 8) ((6 * x2) + x4).toNatClampNeg) (ax_s (h.2.2 x0 23)).2) ∧ ( ∀ v31 : Int32, v31 = (h.1 (h.2.2 x0 23) (h.1 (h.2.2 x1 8) ((6 * x2) + x4).toNatClampNeg).toNatClampNeg) → ( (Is 194 (h.2.2 x0 54) 20) ∧ ( (vp_in x4 (ax_s (h.2.2 x0 54)).2) ∧ ( ((¬ v31 = h.1 (h.2.2 x0 54) x4.toNatClampNeg → (∀ v36 : Int32, v36 = x4 + (1) → ( L_X12_isSeen_70 l g h x0 x1 x2 0 v36  Q))) ∧ (v31 = h.1 (h.2.2 x0 54) x4.toNatClampNeg → (∀ v38 : Int32, v38 = x4 + (1) → ( L_X12_isSeen_70 l g h x0 x1 x2 1 v38  Q)))))))))))))))))))) : L_X12_isSeen_70 l g h x0 x1 x2 x3 x4  Q := by
  refine wp_iload 4 dX12_isSeen_70 rfl ?_
  obtain ⟨i15, hb⟩ := hb
  refine wp_aload_n 0 dX12_isSeen_72 rfl rfl ?_
  refine wp_getI dX12_isSeen_73 fl_X12_428 i15 ?_
  refine wp_icmp_ge (tgt := 122) dX12_isSeen_76 (by decide) (fun c16 => ?_) (fun c16 => ?_)
  · have hb := hb.1 c16
    refine wp_aload_n 0 dX12_isSeen_122 rfl rfl ?_
    obtain ⟨i17, hb⟩ := hb
    refine wp_aload_n 1 dX12_isSeen_123 rfl rfl ?_
    refine wp_callV (as := [.ref x1]) dX12_isSeen_124 cb_X12_pressed lk_X12_354 im_X12_pressed se_X12_pressed rfl (Nat.le_of_ble_eq_true rfl) ⟨by decide, by decide⟩ ⟨Nat.le_refl _, Nat.le_refl _, Nat.le_refl _⟩ i15 rfl (by decide) hb (fun r0 h19 hb => ?_)
    obtain ⟨r20, rfl, hb⟩ := hb
    refine wp_istore (lv2 := [(4, .int r20), (0, .ref x0), (1, .ref x1), (2, .int x2), (3, .int x3)]) dX12_isSeen_127 (by decide) rfl ?_
    refine wp_iconst (v := 0) dX12_isSeen_129 (by decide) ?_
    refine wp_istore (lv2 := [(5, .int 0), (4, .int r20), (0, .ref x0), (1, .ref x1), (2, .int x2), (3, .int x3)]) dX12_isSeen_130 (by decide) rfl ?_
    refine wp_iconst (v := 0) dX12_isSeen_132 (by decide) ?_
    refine wp_istore (lv2 := [(6, .int 0), (5, .int 0), (4, .int r20), (0, .ref x0), (1, .ref x1), (2, .int x2), (3, .int x3)]) dX12_isSeen_133 (by decide) rfl ?_
    exact wp_sub [3, 4, 6, 2, 1, 0] rfl hb
  · have hb := hb.2 c16
    refine wp_iload_n 3 dX12_isSeen_79 rfl rfl ?_
    refine wp_if_eq (tgt := 122) dX12_isSeen_80 (by decide) (fun c21 => ?_) (fun c21 => ?_)
    · have hb := hb.1 c21
      refine wp_aload_n 0 dX12_isSeen_122 rfl rfl ?_
      obtain ⟨i22, hb⟩ := hb
      refine wp_aload_n 1 dX12_isSeen_123 rfl rfl ?_
      refine wp_callV (as := [.ref x1]) dX12_isSeen_124 cb_X12_pressed lk_X12_354 im_X12_pressed se_X12_pressed rfl (Nat.le_of_ble_eq_true rfl) ⟨by decide, by decide⟩ ⟨Nat.le_refl _, Nat.le_refl _, Nat.le_refl _⟩ i15 rfl (by decide) hb (fun r0 h24 hb => ?_)
      obtain ⟨r25, rfl, hb⟩ := hb
      refine wp_istore (lv2 := [(4, .int r25), (0, .ref x0), (1, .ref x1), (2, .int x2), (3, .int x3)]) dX12_isSeen_127 (by decide) rfl ?_
      refine wp_iconst (v := 0) dX12_isSeen_129 (by decide) ?_
      refine wp_istore (lv2 := [(5, .int 0), (4, .int r25), (0, .ref x0), (1, .ref x1), (2, .int x2), (3, .int x3)]) dX12_isSeen_130 (by decide) rfl ?_
      refine wp_iconst (v := 0) dX12_isSeen_132 (by decide) ?_
      refine wp_istore (lv2 := [(6, .int 0), (5, .int 0), (4, .int r25), (0, .ref x0), (1, .ref x1), (2, .int x2), (3, .int x3)]) dX12_isSeen_133 (by decide) rfl ?_
      exact wp_sub [3, 4, 6, 2, 1, 0] rfl hb
    · have hb := hb.2 c21
      refine wp_aload_n 0 dX12_isSeen_83 rfl rfl ?_
      obtain ⟨i26, hb⟩ := hb
      refine wp_getR dX12_isSeen_84 fl_X12_59 i15 (i26.ne (by decide)) ?_
      obtain ⟨i27, hb⟩ := hb
      refine wp_aload_n 1 dX12_isSeen_87 rfl rfl ?_
      obtain ⟨i28, hb⟩ := hb
      refine wp_getR dX12_isSeen_88 fl_X12_257 i27 (i28.ne (by decide)) ?_
      refine wp_bipush (v := 6) dX12_isSeen_91 (by decide) ?_
      refine wp_iload_n 2 dX12_isSeen_93 rfl rfl ?_
      refine wp_imul dX12_isSeen_94 ?_
      refine wp_iload 4 dX12_isSeen_95 rfl ?_
      refine wp_iadd dX12_isSeen_97 ?_
      obtain ⟨b29, hb⟩ := hb
      refine wp_iaload dX12_isSeen_98 i28 b29 ?_
      obtain ⟨b30, hb⟩ := hb
      refine wp_iaload dX12_isSeen_99 i26 b30 ?_
      refine wp_topi (fun v31 e32 => ?_)
      have hb := hb v31 e32
      refine wp_aload_n 0 dX12_isSeen_100 rfl rfl ?_
      obtain ⟨i33, hb⟩ := hb
      refine wp_getR dX12_isSeen_101 fl_X12_125 i15 (i33.ne (by decide)) ?_
      refine wp_iload 4 dX12_isSeen_104 rfl ?_
      obtain ⟨b34, hb⟩ := hb
      refine wp_iaload dX12_isSeen_106 i33 b34 ?_
      refine wp_icmp_ne (tgt := 114) dX12_isSeen_107 (by decide) (fun c35 => ?_) (fun c35 => ?_)
      · have hb := hb.1 c35
        refine wp_iconst (v := 0) dX12_isSeen_114 (by decide) ?_
        refine wp_istore_n (lv2 := [(3, .int 0), (0, .ref x0), (1, .ref x1), (2, .int x2), (4, .int x4)]) dX12_isSeen_115 rfl (by decide) rfl ?_
        obtain ⟨v36, e37⟩ : ∃ y : Int32, y = x4 + (1) := ⟨_, rfl⟩
        have hb := hb v36 e37
        refine wp_iinc (v := v36) (lv2 := [(4, .int v36), (3, .int 0), (0, .ref x0), (1, .ref x1), (2, .int x2)]) 4 dX12_isSeen_116 rfl (by rw [e37]; rfl) (by decide) rfl ?_
        refine wp_goto (tgt := 70) dX12_isSeen_119 (by decide) ?_
        exact wp_sub [2, 3, 4, 1, 0] rfl hb
      · have hb := hb.2 c35
        refine wp_iconst (v := 1) dX12_isSeen_110 (by decide) ?_
        refine wp_goto (tgt := 115) dX12_isSeen_111 (by decide) ?_
        refine wp_istore_n (lv2 := [(3, .int 1), (0, .ref x0), (1, .ref x1), (2, .int x2), (4, .int x4)]) dX12_isSeen_115 rfl (by decide) rfl ?_
        obtain ⟨v38, e39⟩ : ∃ y : Int32, y = x4 + (1) := ⟨_, rfl⟩
        have hb := hb v38 e39
        refine wp_iinc (v := v38) (lv2 := [(4, .int v38), (3, .int 1), (0, .ref x0), (1, .ref x1), (2, .int x2)]) 4 dX12_isSeen_116 rfl (by rw [e39]; rfl) (by decide) rfl ?_
        refine wp_goto (tgt := 70) dX12_isSeen_119 (by decide) ?_
        exact wp_sub [2, 3, 4, 1, 0] rfl hb
set_option maxRecDepth 100000 in
set_option maxHeartbeats 4000000 in
theorem s_X12_isSeen_135 {l : Launch} {g : AG} {h : AH} {x0 : Nat} {x1 : Nat} {x3 : Int32} {x4 : Int32} {x5 : Int32} {x6 : Int32}  {Q : Int32 → AH → Prop} (hb : (Is 194 x1 9) ∧ ( ((h.1 x1 1 ≤ x6 → (L_X12_isSeen_199 l g h x0 x3 x5  Q)) ∧ (¬ (h.1 x1 1 ≤ x6) → (((x3 = 0 → (L_X12_isSeen_199 l g h x0 x3 x5  Q)) ∧ (¬ (x3 = 0) → (((¬ (jishr x4 x6) &&& 1 = 0 → (∀ v44 : Int32, v44 = x5 + (1) → ( (Is 194 x0 11) ∧ ( (Is 194 (h.2.2 x0 55) 21) ∧ ( (Is 194 (h.2.2 x1 4) 21) ∧ ( (vp_in x6 (ax_s (h.2.2 x1 4)).2) ∧ ( C_X12_find l g h (h.2.2 x0 55) 0 (h.1 x0 52) (h.2.1 (h.2.2 x1 4) x6.toNatClampNeg) (fun r52 h51 => ( ((r52 = (-1) → (∀ v54 : Int32, v54 = x6 + (1) → ( L_X12_isSeen_135 l g h51 x0 x1 0 x4 v44 v54  Q))) ∧ (¬ (r52 = (-1)) → (∀ v56 : Int32, v56 = x6 + (1) → ( L_X12_isSeen_135 l g h51 x0 x1 1 x4 v44 v56  Q))))))))))))) ∧ ((jishr x4 x6) &&& 1 = 0 → (∀ v58 : Int32, v58 = x6 + (1) → ( L_X12_isSeen_135 l g h x0 x1 x3 x4 x5 v58  Q)))))))))))) : L_X12_isSeen_135 l g h x0 x1 x3 x4 x5 x6  Q := by
  refine wp_iload 5 dX12_isSeen_135 rfl ?_
  obtain ⟨i40, hb⟩ := hb
  refine wp_aload_n 1 dX12_isSeen_137 rfl rfl ?_
  refine wp_getI dX12_isSeen_138 fl_X12_208 i40 ?_
  refine wp_icmp_ge (tgt := 199) dX12_isSeen_141 (by decide) (fun c41 => ?_) (fun c41 => ?_)
  · have hb := hb.1 c41
    exact wp_sub [0, 2, 4] rfl hb
  · have hb := hb.2 c41
    refine wp_iload_n 2 dX12_isSeen_144 rfl rfl ?_
    refine wp_if_eq (tgt := 199) dX12_isSeen_145 (by decide) (fun c42 => ?_) (fun c42 => ?_)
    · have hb := hb.1 c42
      exact wp_sub [0, 2, 4] rfl hb
    · have hb := hb.2 c42
      refine wp_iload 3 dX12_isSeen_148 rfl ?_
      refine wp_iload 5 dX12_isSeen_150 rfl ?_
      refine wp_ishr dX12_isSeen_152 ?_
      refine wp_iconst (v := 1) dX12_isSeen_153 (by decide) ?_
      refine wp_iand dX12_isSeen_154 ?_
      refine wp_if_ne (tgt := 161) dX12_isSeen_155 (by decide) (fun c43 => ?_) (fun c43 => ?_)
      · have hb := hb.1 c43
        obtain ⟨v44, e45⟩ : ∃ y : Int32, y = x5 + (1) := ⟨_, rfl⟩
        have hb := hb v44 e45
        refine wp_iinc (v := v44) (lv2 := [(5, .int v44), (0, .ref x0), (1, .ref x1), (3, .int x3), (4, .int x4), (6, .int x6)]) 4 dX12_isSeen_161 rfl (by rw [e45]; rfl) (by decide) rfl ?_
        obtain ⟨i46, hb⟩ := hb
        refine wp_aload_n 1 dX12_isSeen_164 rfl rfl ?_
        obtain ⟨i47, hb⟩ := hb
        refine wp_getR dX12_isSeen_165 fl_X12_128 i46 (i47.ne (by decide)) ?_
        refine wp_iconst (v := 0) dX12_isSeen_168 (by decide) ?_
        refine wp_aload_n 1 dX12_isSeen_169 rfl rfl ?_
        refine wp_getI dX12_isSeen_170 fl_X12_431 i46 ?_
        refine wp_aload_n 2 dX12_isSeen_173 rfl rfl ?_
        obtain ⟨i48, hb⟩ := hb
        refine wp_getR dX12_isSeen_174 fl_X12_264 i40 (i48.ne (by decide)) ?_
        refine wp_iload 5 dX12_isSeen_177 rfl ?_
        obtain ⟨b49, hb⟩ := hb
        refine wp_laload dX12_isSeen_179 i48 b49 ?_
        refine wp_callS (as := [.ref (h.2.2 x0 55), .int 0, .int (h.1 x0 52), .long (h.2.1 (h.2.2 x1 4) x6.toNatClampNeg)]) dX12_isSeen_180 cb_X12_find lk_X12_201 st_X12_find rfl (Nat.le_of_ble_eq_true rfl) ⟨by decide, by decide⟩ ⟨Nat.le_refl _, Nat.le_refl _, Nat.le_refl _⟩ hb (fun r0 h51 hb => ?_)
        obtain ⟨r52, rfl, hb⟩ := hb
        refine wp_iconst (v := (-1)) dX12_isSeen_183 (by decide) ?_
        refine wp_icmp_eq (tgt := 191) dX12_isSeen_184 (by decide) (fun c53 => ?_) (fun c53 => ?_)
        · have hb := hb.1 c53
          refine wp_iconst (v := 0) dX12_isSeen_191 (by decide) ?_
          refine wp_istore_n (lv2 := [(3, .int 0), (5, .int v44), (0, .ref x0), (1, .ref x1), (4, .int x4), (6, .int x6)]) dX12_isSeen_192 rfl (by decide) rfl ?_
          obtain ⟨v54, e55⟩ : ∃ y : Int32, y = x6 + (1) := ⟨_, rfl⟩
          have hb := hb v54 e55
          refine wp_iinc (v := v54) (lv2 := [(6, .int v54), (3, .int 0), (5, .int v44), (0, .ref x0), (1, .ref x1), (4, .int x4)]) 5 dX12_isSeen_193 rfl (by rw [e55]; rfl) (by decide) rfl ?_
          refine wp_goto (tgt := 135) dX12_isSeen_196 (by decide) ?_
          exact wp_sub [3, 4, 1, 5, 2, 0] rfl hb
        · have hb := hb.2 c53
          refine wp_iconst (v := 1) dX12_isSeen_187 (by decide) ?_
          refine wp_goto (tgt := 192) dX12_isSeen_188 (by decide) ?_
          refine wp_istore_n (lv2 := [(3, .int 1), (5, .int v44), (0, .ref x0), (1, .ref x1), (4, .int x4), (6, .int x6)]) dX12_isSeen_192 rfl (by decide) rfl ?_
          obtain ⟨v56, e57⟩ : ∃ y : Int32, y = x6 + (1) := ⟨_, rfl⟩
          have hb := hb v56 e57
          refine wp_iinc (v := v56) (lv2 := [(6, .int v56), (3, .int 1), (5, .int v44), (0, .ref x0), (1, .ref x1), (4, .int x4)]) 5 dX12_isSeen_193 rfl (by rw [e57]; rfl) (by decide) rfl ?_
          refine wp_goto (tgt := 135) dX12_isSeen_196 (by decide) ?_
          exact wp_sub [3, 4, 1, 5, 2, 0] rfl hb
      · have hb := hb.2 c43
        refine wp_goto (tgt := 193) dX12_isSeen_158 (by decide) ?_
        obtain ⟨v58, e59⟩ : ∃ y : Int32, y = x6 + (1) := ⟨_, rfl⟩
        have hb := hb v58 e59
        refine wp_iinc (v := v58) (lv2 := [(6, .int v58), (0, .ref x0), (1, .ref x1), (3, .int x3), (4, .int x4), (5, .int x5)]) 5 dX12_isSeen_193 rfl (by rw [e59]; rfl) (by decide) rfl ?_
        refine wp_goto (tgt := 135) dX12_isSeen_196 (by decide) ?_
        exact wp_sub [1, 2, 3, 4, 5, 0] rfl hb
set_option maxRecDepth 100000 in
set_option maxHeartbeats 4000000 in
theorem s_X12_isSeen_199 {l : Launch} {g : AG} {h : AH} {x0 : Nat} {x3 : Int32} {x5 : Int32}  {Q : Int32 → AH → Prop} (hb : ((x3 = 0 → (Q 0 h)) ∧ (¬ (x3 = 0) → ((Is 194 x0 11) ∧ ( ((¬ x5 = h.1 x0 52 → (Q 0 h)) ∧ (x5 = h.1 x0 52 → (Q 1 h)))))))) : L_X12_isSeen_199 l g h x0 x3 x5  Q := by
  refine wp_iload_n 1 dX12_isSeen_199 rfl rfl ?_
  refine wp_if_eq (tgt := 216) dX12_isSeen_200 (by decide) (fun c60 => ?_) (fun c60 => ?_)
  · have hb := hb.1 c60
    refine wp_iconst (v := 0) dX12_isSeen_216 (by decide) ?_
    exact wp_zret rfl dX12_isSeen_217 (Or.inl rfl) ⟨_, rfl, hb⟩
  · have hb := hb.2 c60
    refine wp_iload 2 dX12_isSeen_203 rfl ?_
    obtain ⟨i61, hb⟩ := hb
    refine wp_aload_n 0 dX12_isSeen_205 rfl rfl ?_
    refine wp_getI dX12_isSeen_206 fl_X12_431 i61 ?_
    refine wp_icmp_ne (tgt := 216) dX12_isSeen_209 (by decide) (fun c62 => ?_) (fun c62 => ?_)
    · have hb := hb.1 c62
      refine wp_iconst (v := 0) dX12_isSeen_216 (by decide) ?_
      exact wp_zret rfl dX12_isSeen_217 (Or.inl rfl) ⟨_, rfl, hb⟩
    · have hb := hb.2 c62
      refine wp_iconst (v := 1) dX12_isSeen_212 (by decide) ?_
      refine wp_goto (tgt := 217) dX12_isSeen_213 (by decide) ?_
      exact wp_zret rfl dX12_isSeen_217 (Or.inr rfl) ⟨_, rfl, hb⟩
theorem c_X12_isSeen {l : Launch} {g : AG} {h : AH} {x0 : Nat} {x1 : Nat}  {Q : Int32 → AH → Prop} (hb : L_X12_isSeen_0 l g h x0 x1  Q) : C_X12_isSeen l g h x0 x1  Q := ax_met rfl rfl (Nat.le_of_ble_eq_true rfl) hb
def C_X12_isAlike (l : Launch) (g : AG) (h : AH) (x0 : Nat) (x1 : Int32)  (Q : Int32 → AH → Prop) : Prop := Ct l g mX12_isAlike 2 53 194 194 h [.ref x0, .int x1] (ax_QI Q)
def L_X12_isAlike_0 (l : Launch) (g : AG) (h : AH) (x0 : Nat) (x1 : Int32)  (Q : Int32 → AH → Prop) : Prop := Wp l g mX12_isAlike 2 53 194 194 194 0 [(0, .ref x0), (1, .int x1)] [] h (FM g 194 194 (ax_QI Q))
set_option maxRecDepth 100000 in
set_option maxHeartbeats 4000000 in
theorem s_X12_isAlike_0 {l : Launch} {g : AG} {h : AH} {x0 : Nat} {x1 : Int32}  {Q : Int32 → AH → Prop} (hb : (Is 194 x0 11) ∧ ( (Is 194 (h.2.2 x0 44) 21) ∧ ( (vp_in x1 (ax_s (h.2.2 x0 44)).2) ∧ ( (Is 194 (h.2.2 x0 45) 21) ∧ ( (vp_in x1 (ax_s (h.2.2 x0 45)).2) ∧ ( C_X12_unpack l g h x0 (h.2.1 (h.2.2 x0 44) x1.toNatClampNeg) (h.2.1 (h.2.2 x0 45) x1.toNatClampNeg) (fun h7 => ( (Is 194 (h7.2.2 x0 4) 25) ∧ ( (vp_in 0 (ax_s (h7.2.2 x0 4)).2) ∧ ( (Is 194 (h7.2.2 (h7.2.2 x0 4) (0 : Int32).toNatClampNeg) 9) ∧ ( C_X12_sees l g h7 x0 (h7.2.2 (h7.2.2 x0 4) (0 : Int32).toNatClampNeg) (fun h12 => ( (Is 194 (h12.2.2 x0 46) 21) ∧ ( (vp_in x1 (ax_s (h12.2.2 x0 46)).2) ∧ ( (Is 194 (h12.2.2 x0 47) 21) ∧ ( (vp_in x1 (ax_s (h12.2.2 x0 47)).2) ∧ ( C_X12_unpack l g h12 x0 (h12.2.1 (h12.2.2 x0 46) x1.toNatClampNeg) (h12.2.1 (h12.2.2 x0 47) x1.toNatClampNeg) (fun h18 => ( (Is 194 (h18.2.2 x0 4) 25) ∧ ( (vp_in 1 (ax_s (h18.2.2 x0 4)).2) ∧ ( (Is 194 (h18.2.2 (h18.2.2 x0 4) (1 : Int32).toNatClampNeg) 9) ∧ ( C_X12_isSeen l g h18 x0 (h18.2.2 (h18.2.2 x0 4) (1 : Int32).toNatClampNeg) (fun r24 h23 => ( (r24 = 0 ∨ r24 = 1) ∧ ( Q r24 h23))))))))))))))))))))))))) : L_X12_isAlike_0 l g h x0 x1  Q := by
  obtain ⟨i1, hb⟩ := hb
  refine wp_aload_n 0 dX12_isAlike_0 rfl rfl ?_
  refine wp_aload_n 0 dX12_isAlike_1 rfl rfl ?_
  obtain ⟨i2, hb⟩ := hb
  refine wp_getR dX12_isAlike_2 fl_X12_107 i1 (i2.ne (by decide)) ?_
  refine wp_iload_n 1 dX12_isAlike_5 rfl rfl ?_
  obtain ⟨b3, hb⟩ := hb
  refine wp_laload dX12_isAlike_6 i2 b3 ?_
  refine wp_aload_n 0 dX12_isAlike_7 rfl rfl ?_
  obtain ⟨i4, hb⟩ := hb
  refine wp_getR dX12_isAlike_8 fl_X12_110 i1 (i4.ne (by decide)) ?_
  refine wp_iload_n 1 dX12_isAlike_11 rfl rfl ?_
  obtain ⟨b5, hb⟩ := hb
  refine wp_laload dX12_isAlike_12 i4 b5 ?_
  refine wp_callV (as := [.long (h.2.1 (h.2.2 x0 44) x1.toNatClampNeg), .long (h.2.1 (h.2.2 x0 45) x1.toNatClampNeg)]) dX12_isAlike_13 cb_X12_unpack lk_X12_377 im_X12_unpack se_X12_unpack rfl (Nat.le_of_ble_eq_true rfl) ⟨by decide, by decide⟩ ⟨Nat.le_refl _, Nat.le_refl _, Nat.le_refl _⟩ i1 rfl (by decide) hb (fun r0 h7 hb => ?_)
  obtain ⟨rfl, hb⟩ := hb
  refine wp_aload_n 0 dX12_isAlike_16 rfl rfl ?_
  refine wp_aload_n 0 dX12_isAlike_17 rfl rfl ?_
  obtain ⟨i8, hb⟩ := hb
  refine wp_getR dX12_isAlike_18 fl_X12_21 i1 (i8.ne (by decide)) ?_
  refine wp_iconst (v := 0) dX12_isAlike_21 (by decide) ?_
  obtain ⟨b9, hb⟩ := hb
  obtain ⟨i10, hb⟩ := hb
  refine wp_aaload25 dX12_isAlike_22 i8 b9 (i10.ne (by decide)) ?_
  refine wp_callV (as := [.ref (h7.2.2 (h7.2.2 x0 4) (0 : Int32).toNatClampNeg)]) dX12_isAlike_23 cb_X12_sees lk_X12_437 im_X12_sees se_X12_sees rfl (Nat.le_of_ble_eq_true rfl) ⟨by decide, by decide⟩ ⟨Nat.le_refl _, Nat.le_refl _, Nat.le_refl _⟩ i1 rfl (by decide) hb (fun r0 h12 hb => ?_)
  obtain ⟨rfl, hb⟩ := hb
  refine wp_aload_n 0 dX12_isAlike_26 rfl rfl ?_
  refine wp_aload_n 0 dX12_isAlike_27 rfl rfl ?_
  obtain ⟨i13, hb⟩ := hb
  refine wp_getR dX12_isAlike_28 fl_X12_113 i1 (i13.ne (by decide)) ?_
  refine wp_iload_n 1 dX12_isAlike_31 rfl rfl ?_
  obtain ⟨b14, hb⟩ := hb
  refine wp_laload dX12_isAlike_32 i13 b14 ?_
  refine wp_aload_n 0 dX12_isAlike_33 rfl rfl ?_
  obtain ⟨i15, hb⟩ := hb
  refine wp_getR dX12_isAlike_34 fl_X12_116 i1 (i15.ne (by decide)) ?_
  refine wp_iload_n 1 dX12_isAlike_37 rfl rfl ?_
  obtain ⟨b16, hb⟩ := hb
  refine wp_laload dX12_isAlike_38 i15 b16 ?_
  refine wp_callV (as := [.long (h12.2.1 (h12.2.2 x0 46) x1.toNatClampNeg), .long (h12.2.1 (h12.2.2 x0 47) x1.toNatClampNeg)]) dX12_isAlike_39 cb_X12_unpack lk_X12_377 im_X12_unpack se_X12_unpack rfl (Nat.le_of_ble_eq_true rfl) ⟨by decide, by decide⟩ ⟨Nat.le_refl _, Nat.le_refl _, Nat.le_refl _⟩ i1 rfl (by decide) hb (fun r0 h18 hb => ?_)
  obtain ⟨rfl, hb⟩ := hb
  refine wp_aload_n 0 dX12_isAlike_42 rfl rfl ?_
  refine wp_aload_n 0 dX12_isAlike_43 rfl rfl ?_
  obtain ⟨i19, hb⟩ := hb
  refine wp_getR dX12_isAlike_44 fl_X12_21 i1 (i19.ne (by decide)) ?_
  refine wp_iconst (v := 1) dX12_isAlike_47 (by decide) ?_
  obtain ⟨b20, hb⟩ := hb
  obtain ⟨i21, hb⟩ := hb
  refine wp_aaload25 dX12_isAlike_48 i19 b20 (i21.ne (by decide)) ?_
  refine wp_callV (as := [.ref (h18.2.2 (h18.2.2 x0 4) (1 : Int32).toNatClampNeg)]) dX12_isAlike_49 cb_X12_isSeen lk_X12_440 im_X12_isSeen se_X12_isSeen rfl (Nat.le_of_ble_eq_true rfl) ⟨by decide, by decide⟩ ⟨Nat.le_refl _, Nat.le_refl _, Nat.le_refl _⟩ i1 rfl (by decide) hb (fun r0 h23 hb => ?_)
  obtain ⟨r24, rfl, hb⟩ := hb
  obtain ⟨q25, hb⟩ := hb
  exact wp_zret rfl dX12_isAlike_52 q25 ⟨_, rfl, hb⟩
theorem c_X12_isAlike {l : Launch} {g : AG} {h : AH} {x0 : Nat} {x1 : Int32}  {Q : Int32 → AH → Prop} (hb : L_X12_isAlike_0 l g h x0 x1  Q) : C_X12_isAlike l g h x0 x1  Q := ax_met rfl rfl (Nat.le_of_ble_eq_true rfl) hb
def C_X12_rowOf (l : Launch) (g : AG) (h : AH) (x0 : Nat) (x1 : Int32) (x2 : Int32)  (Q : Int32 → AH → Prop) : Prop := Ct l g mX12_rowOf 1 21 194 194 h [.ref x0, .int x1, .int x2] (ax_QI Q)
def L_X12_rowOf_0 (l : Launch) (g : AG) (h : AH) (x0 : Nat) (x1 : Int32) (x2 : Int32)  (Q : Int32 → AH → Prop) : Prop := Wp l g mX12_rowOf 1 21 194 194 194 0 [(0, .ref x0), (1, .int x1), (2, .int x2)] [] h (FM g 194 194 (ax_QI Q))
def L_X12_rowOf_5 (l : Launch) (g : AG) (h : AH) (x0 : Nat) (x1 : Int32) (x2 : Int32) (x3 : Int32) (x4 : Int32)  (Q : Int32 → AH → Prop) : Prop := Wp l g mX12_rowOf 1 21 194 194 194 5 [(0, .ref x0), (1, .int x1), (2, .int x2), (3, .int x3), (4, .int x4)] [] h (FM g 194 194 (ax_QI Q))
def L_X12_rowOf_39 (l : Launch) (g : AG) (h : AH) (x0 : Nat) (x2 : Int32) (x3 : Int32) (x4 : Int32)  (Q : Int32 → AH → Prop) : Prop := Wp l g mX12_rowOf 1 21 194 194 194 39 [(0, .ref x0), (2, .int x2), (3, .int x3), (4, .int x4)] [] h (FM g 194 194 (ax_QI Q))
set_option maxRecDepth 100000 in
set_option maxHeartbeats 4000000 in
theorem s_X12_rowOf_0 {l : Launch} {g : AG} {h : AH} {x0 : Nat} {x1 : Int32} {x2 : Int32}  {Q : Int32 → AH → Prop} (hb : L_X12_rowOf_5 l g h x0 x1 x2 0 x1  Q) : L_X12_rowOf_0 l g h x0 x1 x2  Q := by
  refine wp_iconst (v := 0) dX12_rowOf_0 (by decide) ?_
  refine wp_istore_n (lv2 := [(3, .int 0), (0, .ref x0), (1, .int x1), (2, .int x2)]) dX12_rowOf_1 rfl (by decide) rfl ?_
  refine wp_iload_n 2 dX12_rowOf_2 rfl rfl ?_
  refine wp_istore (lv2 := [(4, .int x1), (3, .int 0), (0, .ref x0), (1, .int x1), (2, .int x2)]) dX12_rowOf_3 (by decide) rfl ?_
  exact wp_sub [2, 3, 4, 1, 0] rfl hb
set_option maxRecDepth 100000 in
set_option maxHeartbeats 4000000 in
theorem s_X12_rowOf_5 {l : Launch} {g : AG} {h : AH} {x0 : Nat} {x1 : Int32} {x2 : Int32} {x3 : Int32} {x4 : Int32}  {Q : Int32 → AH → Prop} (hb : (Is 194 x0 11) ∧ ( (Is 194 (h.2.2 x0 48) 20) ∧ ( (vp_in x4 (ax_s (h.2.2 x0 48)).2) ∧ ( ((h.1 (h.2.2 x0 48) x4.toNatClampNeg = (-1) → (∀ h5 : AH, h5 = ax_setI h x0 40 x3 → ( L_X12_rowOf_39 l g h5 x0 x2 x3 x1  Q))) ∧ (¬ (h.1 (h.2.2 x0 48) x4.toNatClampNeg = (-1)) → (∀ v7 : Int32, v7 = x3 + (1) → ( (Is 194 (h.2.2 x0 48) 20) ∧ ( (vp_in x4 (ax_s (h.2.2 x0 48)).2) ∧ ( ∀ v11 : Int32, v11 = (h.1 (h.2.2 x0 48) x4.toNatClampNeg) → ( L_X12_rowOf_5 l g h x0 x1 x2 v7 v11  Q))))))))))) : L_X12_rowOf_5 l g h x0 x1 x2 x3 x4  Q := by
  obtain ⟨i1, hb⟩ := hb
  refine wp_aload_n 0 dX12_rowOf_5 rfl rfl ?_
  obtain ⟨i2, hb⟩ := hb
  refine wp_getR dX12_rowOf_6 fl_X12_119 i1 (i2.ne (by decide)) ?_
  refine wp_iload 4 dX12_rowOf_9 rfl ?_
  obtain ⟨b3, hb⟩ := hb
  refine wp_iaload dX12_rowOf_11 i2 b3 ?_
  refine wp_iconst (v := (-1)) dX12_rowOf_12 (by decide) ?_
  refine wp_icmp_eq (tgt := 31) dX12_rowOf_13 (by decide) (fun c4 => ?_) (fun c4 => ?_)
  · have hb := hb.1 c4
    refine wp_aload_n 0 dX12_rowOf_31 rfl rfl ?_
    refine wp_iload_n 3 dX12_rowOf_32 rfl rfl ?_
    refine wp_putI dX12_rowOf_33 fl_X12_415 (Or.inl rfl) i1 ?_
    refine wp_topH (fun h5 e6 => ?_)
    have hb := hb h5 e6
    refine wp_iload_n 1 dX12_rowOf_36 rfl rfl ?_
    refine wp_istore (lv2 := [(4, .int x1), (0, .ref x0), (1, .int x1), (2, .int x2), (3, .int x3)]) dX12_rowOf_37 (by decide) rfl ?_
    exact wp_sub [1, 3, 4, 0] rfl hb
  · have hb := hb.2 c4
    obtain ⟨v7, e8⟩ : ∃ y : Int32, y = x3 + (1) := ⟨_, rfl⟩
    have hb := hb v7 e8
    refine wp_iinc (v := v7) (lv2 := [(3, .int v7), (0, .ref x0), (1, .int x1), (2, .int x2), (4, .int x4)]) 3 dX12_rowOf_16 rfl (by rw [e8]; rfl) (by decide) rfl ?_
    refine wp_aload_n 1 dX12_rowOf_19 rfl rfl ?_
    obtain ⟨i9, hb⟩ := hb
    refine wp_getR dX12_rowOf_20 fl_X12_119 i1 (i9.ne (by decide)) ?_
    refine wp_iload 4 dX12_rowOf_23 rfl ?_
    obtain ⟨b10, hb⟩ := hb
    refine wp_iaload dX12_rowOf_25 i9 b10 ?_
    refine wp_topi (fun v11 e12 => ?_)
    have hb := hb v11 e12
    refine wp_istore (lv2 := [(4, .int v11), (3, .int v7), (0, .ref x0), (1, .int x1), (2, .int x2)]) dX12_rowOf_26 (by decide) rfl ?_
    refine wp_goto (tgt := 5) dX12_rowOf_28 (by decide) ?_
    exact wp_sub [2, 3, 4, 1, 0] rfl hb
set_option maxRecDepth 100000 in
set_option maxHeartbeats 4000000 in
theorem s_X12_rowOf_39 {l : Launch} {g : AG} {h : AH} {x0 : Nat} {x2 : Int32} {x3 : Int32} {x4 : Int32}  {Q : Int32 → AH → Prop} (hb : (Is 194 x0 11) ∧ ( (Is 194 (h.2.2 x0 48) 20) ∧ ( (vp_in x4 (ax_s (h.2.2 x0 48)).2) ∧ ( ((h.1 (h.2.2 x0 48) x4.toNatClampNeg = (-1) → (((¬ x2 = (-1) → ((Is 194 (h.2.2 x0 39) 20) ∧ ( (vp_in (h.1 x0 40) (ax_s (h.2.2 x0 39)).2) ∧ ( ∀ h20 : AH, h20 = ax_setI h (h.2.2 x0 39) (h.1 x0 40).toNatClampNeg x2 → ( ∀ h22 : AH, h22 = ax_setI h20 x0 40 ((h20.1 x0 40) + 1) → ( C_X12_done l g h22 x0 (h22.1 x0 40) (fun r26 h25 => ( Q r26 h25)))))))) ∧ (x2 = (-1) → (C_X12_done l g h x0 (h.1 x0 40) (fun r29 h28 => ( Q r29 h28))))))) ∧ (¬ (h.1 (h.2.2 x0 48) x4.toNatClampNeg = (-1)) → (∀ v30 : Int32, v30 = x3 + (-1) → ( (Is 194 (h.2.2 x0 39) 20) ∧ ( (Is 194 (h.2.2 x0 49) 20) ∧ ( (vp_in x4 (ax_s (h.2.2 x0 49)).2) ∧ ( (vp_in v30 (ax_s (h.2.2 x0 39)).2) ∧ ( ∀ h36 : AH, h36 = ax_setI h (h.2.2 x0 39) v30.toNatClampNeg (h.1 (h.2.2 x0 49) x4.toNatClampNeg) → ( (Is 194 (h36.2.2 x0 48) 20) ∧ ( (vp_in x4 (ax_s (h36.2.2 x0 48)).2) ∧ ( ∀ v40 : Int32, v40 = (h36.1 (h36.2.2 x0 48) x4.toNatClampNeg) → ( L_X12_rowOf_39 l g h36 x0 x2 v30 v40  Q)))))))))))))))) : L_X12_rowOf_39 l g h x0 x2 x3 x4  Q := by
  obtain ⟨i13, hb⟩ := hb
  refine wp_aload_n 0 dX12_rowOf_39 rfl rfl ?_
  obtain ⟨i14, hb⟩ := hb
  refine wp_getR dX12_rowOf_40 fl_X12_119 i13 (i14.ne (by decide)) ?_
  refine wp_iload 3 dX12_rowOf_43 rfl ?_
  obtain ⟨b15, hb⟩ := hb
  refine wp_iaload dX12_rowOf_45 i14 b15 ?_
  refine wp_iconst (v := (-1)) dX12_rowOf_46 (by decide) ?_
  refine wp_icmp_eq (tgt := 78) dX12_rowOf_47 (by decide) (fun c16 => ?_) (fun c16 => ?_)
  · have hb := hb.1 c16
    refine wp_iload_n 1 dX12_rowOf_78 rfl rfl ?_
    refine wp_iconst (v := (-1)) dX12_rowOf_79 (by decide) ?_
    refine wp_icmp_ne (tgt := 92) dX12_rowOf_80 (by decide) (fun c17 => ?_) (fun c17 => ?_)
    · have hb := hb.1 c17
      refine wp_aload_n 0 dX12_rowOf_92 rfl rfl ?_
      obtain ⟨i18, hb⟩ := hb
      refine wp_getR dX12_rowOf_93 fl_X12_101 i13 (i18.ne (by decide)) ?_
      refine wp_aload_n 0 dX12_rowOf_96 rfl rfl ?_
      refine wp_getI dX12_rowOf_97 fl_X12_415 i13 ?_
      refine wp_iload_n 1 dX12_rowOf_100 rfl rfl ?_
      obtain ⟨b19, hb⟩ := hb
      refine wp_iastore dX12_rowOf_101 i18 b19 ?_
      refine wp_topH (fun h20 e21 => ?_)
      have hb := hb h20 e21
      refine wp_aload_n 0 dX12_rowOf_102 rfl rfl ?_
      refine wp_dup dX12_rowOf_103 rfl ?_
      refine wp_getI dX12_rowOf_104 fl_X12_415 i13 ?_
      refine wp_iconst (v := 1) dX12_rowOf_107 (by decide) ?_
      refine wp_iadd dX12_rowOf_108 ?_
      refine wp_putI dX12_rowOf_109 fl_X12_415 (Or.inl rfl) i13 ?_
      refine wp_topH (fun h22 e23 => ?_)
      have hb := hb h22 e23
      refine wp_aload_n 0 dX12_rowOf_112 rfl rfl ?_
      refine wp_aload_n 0 dX12_rowOf_113 rfl rfl ?_
      refine wp_getI dX12_rowOf_114 fl_X12_415 i13 ?_
      refine wp_callV (as := [.int (h22.1 x0 40)]) dX12_rowOf_117 cb_X12_done lk_X12_337 im_X12_done se_X12_done rfl (Nat.le_of_ble_eq_true rfl) ⟨by decide, by decide⟩ ⟨Nat.le_refl _, Nat.le_refl _, Nat.le_refl _⟩ i13 rfl (by decide) hb (fun r0 h25 hb => ?_)
      obtain ⟨r26, rfl, hb⟩ := hb
      exact wp_iret rfl dX12_rowOf_120 ⟨_, rfl, hb⟩
    · have hb := hb.2 c17
      refine wp_aload_n 0 dX12_rowOf_83 rfl rfl ?_
      refine wp_aload_n 0 dX12_rowOf_84 rfl rfl ?_
      refine wp_getI dX12_rowOf_85 fl_X12_415 i13 ?_
      refine wp_callV (as := [.int (h.1 x0 40)]) dX12_rowOf_88 cb_X12_done lk_X12_337 im_X12_done se_X12_done rfl (Nat.le_of_ble_eq_true rfl) ⟨by decide, by decide⟩ ⟨Nat.le_refl _, Nat.le_refl _, Nat.le_refl _⟩ i13 rfl (by decide) hb (fun r0 h28 hb => ?_)
      obtain ⟨r29, rfl, hb⟩ := hb
      exact wp_iret rfl dX12_rowOf_91 ⟨_, rfl, hb⟩
  · have hb := hb.2 c16
    obtain ⟨v30, e31⟩ : ∃ y : Int32, y = x3 + (-1) := ⟨_, rfl⟩
    have hb := hb v30 e31
    refine wp_iinc (v := v30) (lv2 := [(3, .int v30), (0, .ref x0), (2, .int x2), (4, .int x4)]) 2 dX12_rowOf_50 rfl (by rw [e31]; rfl) (by decide) rfl ?_
    refine wp_aload_n 1 dX12_rowOf_53 rfl rfl ?_
    obtain ⟨i32, hb⟩ := hb
    refine wp_getR dX12_rowOf_54 fl_X12_101 i13 (i32.ne (by decide)) ?_
    refine wp_iload_n 0 dX12_rowOf_57 rfl rfl ?_
    refine wp_aload_n 1 dX12_rowOf_58 rfl rfl ?_
    obtain ⟨i33, hb⟩ := hb
    refine wp_getR dX12_rowOf_59 fl_X12_122 i13 (i33.ne (by decide)) ?_
    refine wp_iload 3 dX12_rowOf_62 rfl ?_
    obtain ⟨b34, hb⟩ := hb
    refine wp_iaload dX12_rowOf_64 i33 b34 ?_
    obtain ⟨b35, hb⟩ := hb
    refine wp_iastore dX12_rowOf_65 i32 b35 ?_
    refine wp_topH (fun h36 e37 => ?_)
    have hb := hb h36 e37
    refine wp_aload_n 1 dX12_rowOf_66 rfl rfl ?_
    obtain ⟨i38, hb⟩ := hb
    refine wp_getR dX12_rowOf_67 fl_X12_119 i13 (i38.ne (by decide)) ?_
    refine wp_iload 3 dX12_rowOf_70 rfl ?_
    obtain ⟨b39, hb⟩ := hb
    refine wp_iaload dX12_rowOf_72 i38 b39 ?_
    refine wp_topi (fun v40 e41 => ?_)
    have hb := hb v40 e41
    refine wp_istore (lv2 := [(4, .int v40), (3, .int v30), (0, .ref x0), (2, .int x2)]) dX12_rowOf_73 (by decide) rfl ?_
    refine wp_goto (tgt := 39) dX12_rowOf_75 (by decide) ?_
    exact wp_sub [2, 3, 1, 0] rfl hb
theorem c_X12_rowOf {l : Launch} {g : AG} {h : AH} {x0 : Nat} {x1 : Int32} {x2 : Int32}  {Q : Int32 → AH → Prop} (hb : L_X12_rowOf_0 l g h x0 x1 x2  Q) : C_X12_rowOf l g h x0 x1 x2  Q := ax_met rfl rfl (Nat.le_of_ble_eq_true rfl) hb
def C_X12_apart (l : Launch) (g : AG) (h : AH) (x0 : Nat)  (Q : Int32 → AH → Prop) : Prop := Ct l g mX12_apart 3 74 194 194 h [.ref x0] (ax_QI Q)
def L_X12_apart_0 (l : Launch) (g : AG) (h : AH) (x0 : Nat)  (Q : Int32 → AH → Prop) : Prop := Wp l g mX12_apart 3 74 194 194 194 0 [(0, .ref x0)] [] h (FM g 194 194 (ax_QI Q))
def L_X12_apart_116 (l : Launch) (g : AG) (h : AH) (x0 : Nat) (x1 : Nat) (x2 : Nat) (x3 : Int32)  (Q : Int32 → AH → Prop) : Prop := Wp l g mX12_apart 3 74 194 194 194 116 [(0, .ref x0), (1, .ref x1), (2, .ref x2), (3, .int x3)] [] h (FM g 194 194 (ax_QI Q))
def L_X12_apart_176 (l : Launch) (g : AG) (h : AH) (x0 : Nat) (x1 : Nat) (x2 : Nat) (x3 : Int32) (x4 : Int32) (x5 : Int32) (x6 : Int32) (x7 : Int32)  (Q : Int32 → AH → Prop) : Prop := Wp l g mX12_apart 3 74 194 194 194 176 [(0, .ref x0), (1, .ref x1), (2, .ref x2), (3, .int x3), (4, .int x4), (5, .int x5), (6, .int x6), (7, .int x7)] [] h (FM g 194 194 (ax_QI Q))
def L_X12_apart_499 (l : Launch) (g : AG) (h : AH) (x0 : Nat) (x3 : Int32) (x7 : Int32) (x8 : Int32)  (Q : Int32 → AH → Prop) : Prop := Wp l g mX12_apart 3 74 194 194 194 499 [(0, .ref x0), (3, .int x3), (7, .int x7), (8, .int x8)] [] h (FM g 194 194 (ax_QI Q))
def L_X12_apart_290 (l : Launch) (g : AG) (h : AH) (x0 : Nat) (x1 : Nat) (x2 : Nat) (x3 : Int32) (x4 : Int32) (x5 : Int32) (x6 : Int32) (x7 : Int32) (x9 : Int64) (x11 : Int64) (x13 : Int32)  (Q : Int32 → AH → Prop) : Prop := Wp l g mX12_apart 3 74 194 194 194 290 [(0, .ref x0), (1, .ref x1), (2, .ref x2), (3, .int x3), (4, .int x4), (5, .int x5), (6, .int x6), (7, .int x7), (9, .long x9), (11, .long x11), (13, .int x13)] [] h (FM g 194 194 (ax_QI Q))
def L_X12_apart_361 (l : Launch) (g : AG) (h : AH) (x0 : Nat) (x1 : Nat) (x2 : Nat) (x3 : Int32) (x4 : Int32) (x5 : Int32) (x6 : Int32) (x7 : Int32) (x9 : Int64) (x11 : Int64) (x13 : Int32)  (Q : Int32 → AH → Prop) : Prop := Wp l g mX12_apart 3 74 194 194 194 361 [(0, .ref x0), (1, .ref x1), (2, .ref x2), (3, .int x3), (4, .int x4), (5, .int x5), (6, .int x6), (7, .int x7), (9, .long x9), (11, .long x11), (13, .int x13)] [] h (FM g 194 194 (ax_QI Q))
set_option maxRecDepth 100000 in
set_option maxHeartbeats 4000000 in
theorem s_X12_apart_0 {l : Launch} {g : AG} {h : AH} {x0 : Nat}  {Q : Int32 → AH → Prop} (hb : (Is 194 x0 11) ∧ ( ∀ h2 : AH, h2 = ax_setI h x0 0 0 → ( (Is 194 (h2.2.2 x0 6) 23) ∧ ( (vp_in 0 (ax_s (h2.2.2 x0 6)).2) ∧ ( ((h2.1 (h2.2.2 x0 6) (0 : Int32).toNatClampNeg = 0 → (C_X12_refused l g h2 x0 1 (fun r9 h8 => ( Q r9 h8)))) ∧ (¬ (h2.1 (h2.2.2 x0 6) (0 : Int32).toNatClampNeg = 0) → ((Is 194 (h2.2.2 x0 6) 23) ∧ ( (vp_in 1 (ax_s (h2.2.2 x0 6)).2) ∧ ( ((¬ h2.1 (h2.2.2 x0 6) (1 : Int32).toNatClampNeg = 0 → ((Is 194 (h2.2.2 x0 4) 25) ∧ ( (vp_in 0 (ax_s (h2.2.2 x0 4)).2) ∧ ( (Is 194 (h2.2.2 (h2.2.2 x0 4) (0 : Int32).toNatClampNeg) 9) ∧ ( ∀ v16 : Nat, v16 = (h2.2.2 (h2.2.2 x0 4) (0 : Int32).toNatClampNeg) → ( (Is 194 (h2.2.2 x0 4) 25) ∧ ( (vp_in 1 (ax_s (h2.2.2 x0 4)).2) ∧ ( (Is 194 (h2.2.2 (h2.2.2 x0 4) (1 : Int32).toNatClampNeg) 9) ∧ ( ∀ v22 : Nat, v22 = (h2.2.2 (h2.2.2 x0 4) (1 : Int32).toNatClampNeg) → ( C_X12_begins l g h2 x0 (fun h26 => ( (Is 194 (h26.2.2 x0 44) 21) ∧ ( C_X12_packed l g h26 x0 (fun r30 h29 => ( (vp_in 0 (ax_s (h26.2.2 x0 44)).2) ∧ ( ∀ h32 : AH, h32 = ax_setL h29 (h26.2.2 x0 44) (0 : Int32).toNatClampNeg r30 → ( (Is 194 (h32.2.2 x0 45) 21) ∧ ( C_X12_packedVars l g h32 x0 (fun r37 h36 => ( (vp_in 0 (ax_s (h32.2.2 x0 45)).2) ∧ ( ∀ h39 : AH, h39 = ax_setL h36 (h32.2.2 x0 45) (0 : Int32).toNatClampNeg r37 → ( (Is 194 (h39.2.2 x0 46) 21) ∧ ( C_X12_packed l g h39 x0 (fun r44 h43 => ( (vp_in 0 (ax_s (h39.2.2 x0 46)).2) ∧ ( ∀ h46 : AH, h46 = ax_setL h43 (h39.2.2 x0 46) (0 : Int32).toNatClampNeg r44 → ( (Is 194 (h46.2.2 x0 47) 21) ∧ ( C_X12_packedVars l g h46 x0 (fun r51 h50 => ( (vp_in 0 (ax_s (h46.2.2 x0 47)).2) ∧ ( ∀ h53 : AH, h53 = ax_setL h50 (h46.2.2 x0 47) (0 : Int32).toNatClampNeg r51 → ( (Is 194 (h53.2.2 x0 48) 20) ∧ ( (vp_in 0 (ax_s (h53.2.2 x0 48)).2) ∧ ( ∀ h57 : AH, h57 = ax_setI h53 (h53.2.2 x0 48) (0 : Int32).toNatClampNeg (-1) → ( ∀ h59 : AH, h59 = ax_setI h57 x0 43 1 → ( C_X12_isAlike l g h59 x0 0 (fun r63 h62 => ( ((¬ r63 = 0 → (L_X12_apart_116 l g h62 x0 v16 v22 0  Q)) ∧ (r63 = 0 → (C_X12_rowOf l g h62 x0 0 (-1) (fun r67 h66 => ( Q r67 h66))))))))))))))))))))))))))))))))))))))))))) ∧ (h2.1 (h2.2.2 x0 6) (1 : Int32).toNatClampNeg = 0 → (C_X12_refused l g h2 x0 1 (fun r70 h69 => ( Q r70 h69))))))))))))))) : L_X12_apart_0 l g h x0  Q := by
  obtain ⟨i1, hb⟩ := hb
  refine wp_aload_n 0 dX12_apart_0 rfl rfl ?_
  refine wp_iconst (v := 0) dX12_apart_1 (by decide) ?_
  refine wp_putI dX12_apart_2 fl_X12_1 (Or.inl rfl) i1 ?_
  refine wp_topH (fun h2 e3 => ?_)
  have hb := hb h2 e3
  refine wp_aload_n 0 dX12_apart_5 rfl rfl ?_
  obtain ⟨i4, hb⟩ := hb
  refine wp_getR dX12_apart_6 fl_X12_30 i1 (i4.ne (by decide)) ?_
  refine wp_iconst (v := 0) dX12_apart_9 (by decide) ?_
  obtain ⟨b5, hb⟩ := hb
  refine wp_zaload dX12_apart_10 i4 b5 ?_
  refine wp_if_eq (tgt := 23) dX12_apart_11 (by decide) (fun c6 => ?_) (fun c6 => ?_)
  · have hb := hb.1 c6
    refine wp_aload_n 0 dX12_apart_23 rfl rfl ?_
    refine wp_iconst (v := 1) dX12_apart_24 (by decide) ?_
    refine wp_callV (as := [.int 1]) dX12_apart_25 cb_X12_refused lk_X12_316 im_X12_refused se_X12_refused rfl (Nat.le_of_ble_eq_true rfl) ⟨by decide, by decide⟩ ⟨Nat.le_refl _, Nat.le_refl _, Nat.le_refl _⟩ i1 rfl (by decide) hb (fun r0 h8 hb => ?_)
    obtain ⟨r9, rfl, hb⟩ := hb
    exact wp_iret rfl dX12_apart_28 ⟨_, rfl, hb⟩
  · have hb := hb.2 c6
    refine wp_aload_n 0 dX12_apart_14 rfl rfl ?_
    obtain ⟨i10, hb⟩ := hb
    refine wp_getR dX12_apart_15 fl_X12_30 i1 (i10.ne (by decide)) ?_
    refine wp_iconst (v := 1) dX12_apart_18 (by decide) ?_
    obtain ⟨b11, hb⟩ := hb
    refine wp_zaload dX12_apart_19 i10 b11 ?_
    refine wp_if_ne (tgt := 29) dX12_apart_20 (by decide) (fun c12 => ?_) (fun c12 => ?_)
    · have hb := hb.1 c12
      refine wp_aload_n 0 dX12_apart_29 rfl rfl ?_
      obtain ⟨i13, hb⟩ := hb
      refine wp_getR dX12_apart_30 fl_X12_21 i1 (i13.ne (by decide)) ?_
      refine wp_iconst (v := 0) dX12_apart_33 (by decide) ?_
      obtain ⟨b14, hb⟩ := hb
      obtain ⟨i15, hb⟩ := hb
      refine wp_aaload25 dX12_apart_34 i13 b14 (i15.ne (by decide)) ?_
      refine wp_topr (fun v16 e17 => ?_)
      have hb := hb v16 e17
      have i18 : Is 194 v16 9 := by rw [e17]; exact i15
      refine wp_astore_n (lv2 := [(1, .ref v16), (0, .ref x0)]) dX12_apart_35 rfl (by decide) rfl ?_
      refine wp_aload_n 1 dX12_apart_36 rfl rfl ?_
      obtain ⟨i19, hb⟩ := hb
      refine wp_getR dX12_apart_37 fl_X12_21 i1 (i19.ne (by decide)) ?_
      refine wp_iconst (v := 1) dX12_apart_40 (by decide) ?_
      obtain ⟨b20, hb⟩ := hb
      obtain ⟨i21, hb⟩ := hb
      refine wp_aaload25 dX12_apart_41 i19 b20 (i21.ne (by decide)) ?_
      refine wp_topr (fun v22 e23 => ?_)
      have hb := hb v22 e23
      have i24 : Is 194 v22 9 := by rw [e23]; exact i21
      refine wp_astore_n (lv2 := [(2, .ref v22), (1, .ref v16), (0, .ref x0)]) dX12_apart_42 rfl (by decide) rfl ?_
      refine wp_aload_n 2 dX12_apart_43 rfl rfl ?_
      refine wp_callV (as := []) dX12_apart_44 cb_X12_begins lk_X12_324 im_X12_begins se_X12_begins rfl (Nat.le_of_ble_eq_true rfl) ⟨by decide, by decide⟩ ⟨Nat.le_refl _, Nat.le_refl _, Nat.le_refl _⟩ i1 rfl (by decide) hb (fun r0 h26 hb => ?_)
      obtain ⟨rfl, hb⟩ := hb
      refine wp_aload_n 2 dX12_apart_47 rfl rfl ?_
      obtain ⟨i27, hb⟩ := hb
      refine wp_getR dX12_apart_48 fl_X12_107 i1 (i27.ne (by decide)) ?_
      refine wp_iconst (v := 0) dX12_apart_51 (by decide) ?_
      refine wp_aload_n 2 dX12_apart_52 rfl rfl ?_
      refine wp_callV (as := []) dX12_apart_53 cb_X12_packed lk_X12_327 im_X12_packed se_X12_packed rfl (Nat.le_of_ble_eq_true rfl) ⟨by decide, by decide⟩ ⟨Nat.le_refl _, Nat.le_refl _, Nat.le_refl _⟩ i1 rfl (by decide) hb (fun r0 h29 hb => ?_)
      obtain ⟨r30, rfl, hb⟩ := hb
      obtain ⟨b31, hb⟩ := hb
      refine wp_lastore dX12_apart_56 i27 b31 ?_
      refine wp_topH (fun h32 e33 => ?_)
      have hb := hb h32 e33
      refine wp_aload_n 2 dX12_apart_57 rfl rfl ?_
      obtain ⟨i34, hb⟩ := hb
      refine wp_getR dX12_apart_58 fl_X12_110 i1 (i34.ne (by decide)) ?_
      refine wp_iconst (v := 0) dX12_apart_61 (by decide) ?_
      refine wp_aload_n 2 dX12_apart_62 rfl rfl ?_
      refine wp_callV (as := []) dX12_apart_63 cb_X12_packedVars lk_X12_331 im_X12_packedVars se_X12_packedVars rfl (Nat.le_of_ble_eq_true rfl) ⟨by decide, by decide⟩ ⟨Nat.le_refl _, Nat.le_refl _, Nat.le_refl _⟩ i1 rfl (by decide) hb (fun r0 h36 hb => ?_)
      obtain ⟨r37, rfl, hb⟩ := hb
      obtain ⟨b38, hb⟩ := hb
      refine wp_lastore dX12_apart_66 i34 b38 ?_
      refine wp_topH (fun h39 e40 => ?_)
      have hb := hb h39 e40
      refine wp_aload_n 2 dX12_apart_67 rfl rfl ?_
      obtain ⟨i41, hb⟩ := hb
      refine wp_getR dX12_apart_68 fl_X12_113 i1 (i41.ne (by decide)) ?_
      refine wp_iconst (v := 0) dX12_apart_71 (by decide) ?_
      refine wp_aload_n 2 dX12_apart_72 rfl rfl ?_
      refine wp_callV (as := []) dX12_apart_73 cb_X12_packed lk_X12_327 im_X12_packed se_X12_packed rfl (Nat.le_of_ble_eq_true rfl) ⟨by decide, by decide⟩ ⟨Nat.le_refl _, Nat.le_refl _, Nat.le_refl _⟩ i1 rfl (by decide) hb (fun r0 h43 hb => ?_)
      obtain ⟨r44, rfl, hb⟩ := hb
      obtain ⟨b45, hb⟩ := hb
      refine wp_lastore dX12_apart_76 i41 b45 ?_
      refine wp_topH (fun h46 e47 => ?_)
      have hb := hb h46 e47
      refine wp_aload_n 2 dX12_apart_77 rfl rfl ?_
      obtain ⟨i48, hb⟩ := hb
      refine wp_getR dX12_apart_78 fl_X12_116 i1 (i48.ne (by decide)) ?_
      refine wp_iconst (v := 0) dX12_apart_81 (by decide) ?_
      refine wp_aload_n 2 dX12_apart_82 rfl rfl ?_
      refine wp_callV (as := []) dX12_apart_83 cb_X12_packedVars lk_X12_331 im_X12_packedVars se_X12_packedVars rfl (Nat.le_of_ble_eq_true rfl) ⟨by decide, by decide⟩ ⟨Nat.le_refl _, Nat.le_refl _, Nat.le_refl _⟩ i1 rfl (by decide) hb (fun r0 h50 hb => ?_)
      obtain ⟨r51, rfl, hb⟩ := hb
      obtain ⟨b52, hb⟩ := hb
      refine wp_lastore dX12_apart_86 i48 b52 ?_
      refine wp_topH (fun h53 e54 => ?_)
      have hb := hb h53 e54
      refine wp_aload_n 2 dX12_apart_87 rfl rfl ?_
      obtain ⟨i55, hb⟩ := hb
      refine wp_getR dX12_apart_88 fl_X12_119 i1 (i55.ne (by decide)) ?_
      refine wp_iconst (v := 0) dX12_apart_91 (by decide) ?_
      refine wp_iconst (v := (-1)) dX12_apart_92 (by decide) ?_
      obtain ⟨b56, hb⟩ := hb
      refine wp_iastore dX12_apart_93 i55 b56 ?_
      refine wp_topH (fun h57 e58 => ?_)
      have hb := hb h57 e58
      refine wp_aload_n 2 dX12_apart_94 rfl rfl ?_
      refine wp_iconst (v := 1) dX12_apart_95 (by decide) ?_
      refine wp_putI dX12_apart_96 fl_X12_444 (Or.inl rfl) i1 ?_
      refine wp_topH (fun h59 e60 => ?_)
      have hb := hb h59 e60
      refine wp_aload_n 2 dX12_apart_99 rfl rfl ?_
      refine wp_iconst (v := 0) dX12_apart_100 (by decide) ?_
      refine wp_callV (as := [.int 0]) dX12_apart_101 cb_X12_isAlike lk_X12_447 im_X12_isAlike se_X12_isAlike rfl (Nat.le_of_ble_eq_true rfl) ⟨by decide, by decide⟩ ⟨Nat.le_refl _, Nat.le_refl _, Nat.le_refl _⟩ i1 rfl (by decide) hb (fun r0 h62 hb => ?_)
      obtain ⟨r63, rfl, hb⟩ := hb
      refine wp_if_ne (tgt := 114) dX12_apart_104 (by decide) (fun c64 => ?_) (fun c64 => ?_)
      · have hb := hb.1 c64
        refine wp_iconst (v := 0) dX12_apart_114 (by decide) ?_
        refine wp_istore_n (lv2 := [(3, .int 0), (2, .ref v22), (1, .ref v16), (0, .ref x0)]) dX12_apart_115 rfl (by decide) rfl ?_
        exact wp_sub [3, 2, 1, 0] rfl hb
      · have hb := hb.2 c64
        refine wp_aload_n 2 dX12_apart_107 rfl rfl ?_
        refine wp_iconst (v := 0) dX12_apart_108 (by decide) ?_
        refine wp_iconst (v := (-1)) dX12_apart_109 (by decide) ?_
        refine wp_callV (as := [.int 0, .int (-1)]) dX12_apart_110 cb_X12_rowOf lk_X12_450 im_X12_rowOf se_X12_rowOf rfl (Nat.le_of_ble_eq_true rfl) ⟨by decide, by decide⟩ ⟨Nat.le_refl _, Nat.le_refl _, Nat.le_refl _⟩ i1 rfl (by decide) hb (fun r0 h66 hb => ?_)
        obtain ⟨r67, rfl, hb⟩ := hb
        exact wp_iret rfl dX12_apart_113 ⟨_, rfl, hb⟩
    · have hb := hb.2 c12
      refine wp_aload_n 0 dX12_apart_23 rfl rfl ?_
      refine wp_iconst (v := 1) dX12_apart_24 (by decide) ?_
      refine wp_callV (as := [.int 1]) dX12_apart_25 cb_X12_refused lk_X12_316 im_X12_refused se_X12_refused rfl (Nat.le_of_ble_eq_true rfl) ⟨by decide, by decide⟩ ⟨Nat.le_refl _, Nat.le_refl _, Nat.le_refl _⟩ i1 rfl (by decide) hb (fun r0 h69 hb => ?_)
      obtain ⟨r70, rfl, hb⟩ := hb
      exact wp_iret rfl dX12_apart_28 ⟨_, rfl, hb⟩
set_option maxRecDepth 100000 in
set_option maxHeartbeats 4000000 in
theorem s_X12_apart_116 {l : Launch} {g : AG} {h : AH} {x0 : Nat} {x1 : Nat} {x2 : Nat} {x3 : Int32}  {Q : Int32 → AH → Prop} (hb : (Is 194 x0 11) ∧ ( ((h.1 x0 43 ≤ x3 → (C_X12_done l g h x0 (-2) (fun r75 h74 => ( Q r75 h74)))) ∧ (¬ (h.1 x0 43 ≤ x3) → ((Is 194 (h.2.2 x0 44) 21) ∧ ( (vp_in x3 (ax_s (h.2.2 x0 44)).2) ∧ ( (Is 194 (h.2.2 x0 45) 21) ∧ ( (vp_in x3 (ax_s (h.2.2 x0 45)).2) ∧ ( C_X12_unpack l g h x0 (h.2.1 (h.2.2 x0 44) x3.toNatClampNeg) (h.2.1 (h.2.2 x0 45) x3.toNatClampNeg) (fun h81 => ( (Is 194 x1 9) ∧ ( C_X12_possible l g h81 x0 x1 (fun r85 h84 => ( (Is 194 (h84.2.2 x0 46) 21) ∧ ( (vp_in x3 (ax_s (h84.2.2 x0 46)).2) ∧ ( (Is 194 (h84.2.2 x0 47) 21) ∧ ( (vp_in x3 (ax_s (h84.2.2 x0 47)).2) ∧ ( C_X12_unpack l g h84 x0 (h84.2.1 (h84.2.2 x0 46) x3.toNatClampNeg) (h84.2.1 (h84.2.2 x0 47) x3.toNatClampNeg) (fun h91 => ( (Is 194 x2 9) ∧ ( C_X12_possible l g h91 x0 x2 (fun r95 h94 => ( L_X12_apart_176 l g h94 x0 x1 x2 x3 r85 r95 0 0  Q))))))))))))))))))))))) : L_X12_apart_116 l g h x0 x1 x2 x3  Q := by
  refine wp_iload_n 3 dX12_apart_116 rfl rfl ?_
  obtain ⟨i71, hb⟩ := hb
  refine wp_aload_n 0 dX12_apart_117 rfl rfl ?_
  refine wp_getI dX12_apart_118 fl_X12_444 i71 ?_
  refine wp_icmp_ge (tgt := 532) dX12_apart_121 (by decide) (fun c72 => ?_) (fun c72 => ?_)
  · have hb := hb.1 c72
    refine wp_aload_n 0 dX12_apart_532 rfl rfl ?_
    refine wp_bipush (v := (-2)) dX12_apart_533 (by decide) ?_
    refine wp_callV (as := [.int (-2)]) dX12_apart_535 cb_X12_done lk_X12_337 im_X12_done se_X12_done rfl (Nat.le_of_ble_eq_true rfl) ⟨by decide, by decide⟩ ⟨Nat.le_refl _, Nat.le_refl _, Nat.le_refl _⟩ i71 rfl (by decide) hb (fun r0 h74 hb => ?_)
    obtain ⟨r75, rfl, hb⟩ := hb
    exact wp_iret rfl dX12_apart_538 ⟨_, rfl, hb⟩
  · have hb := hb.2 c72
    refine wp_aload_n 0 dX12_apart_124 rfl rfl ?_
    refine wp_aload_n 0 dX12_apart_125 rfl rfl ?_
    obtain ⟨i76, hb⟩ := hb
    refine wp_getR dX12_apart_126 fl_X12_107 i71 (i76.ne (by decide)) ?_
    refine wp_iload_n 3 dX12_apart_129 rfl rfl ?_
    obtain ⟨b77, hb⟩ := hb
    refine wp_laload dX12_apart_130 i76 b77 ?_
    refine wp_aload_n 0 dX12_apart_131 rfl rfl ?_
    obtain ⟨i78, hb⟩ := hb
    refine wp_getR dX12_apart_132 fl_X12_110 i71 (i78.ne (by decide)) ?_
    refine wp_iload_n 3 dX12_apart_135 rfl rfl ?_
    obtain ⟨b79, hb⟩ := hb
    refine wp_laload dX12_apart_136 i78 b79 ?_
    refine wp_callV (as := [.long (h.2.1 (h.2.2 x0 44) x3.toNatClampNeg), .long (h.2.1 (h.2.2 x0 45) x3.toNatClampNeg)]) dX12_apart_137 cb_X12_unpack lk_X12_377 im_X12_unpack se_X12_unpack rfl (Nat.le_of_ble_eq_true rfl) ⟨by decide, by decide⟩ ⟨Nat.le_refl _, Nat.le_refl _, Nat.le_refl _⟩ i71 rfl (by decide) hb (fun r0 h81 hb => ?_)
    obtain ⟨rfl, hb⟩ := hb
    refine wp_aload_n 0 dX12_apart_140 rfl rfl ?_
    obtain ⟨i82, hb⟩ := hb
    refine wp_aload_n 1 dX12_apart_141 rfl rfl ?_
    refine wp_callV (as := [.ref x1]) dX12_apart_142 cb_X12_possible lk_X12_381 im_X12_possible se_X12_possible rfl (Nat.le_of_ble_eq_true rfl) ⟨by decide, by decide⟩ ⟨Nat.le_refl _, Nat.le_refl _, Nat.le_refl _⟩ i71 rfl (by decide) hb (fun r0 h84 hb => ?_)
    obtain ⟨r85, rfl, hb⟩ := hb
    refine wp_istore (lv2 := [(4, .int r85), (0, .ref x0), (1, .ref x1), (2, .ref x2), (3, .int x3)]) dX12_apart_145 (by decide) rfl ?_
    refine wp_aload_n 1 dX12_apart_147 rfl rfl ?_
    refine wp_aload_n 1 dX12_apart_148 rfl rfl ?_
    obtain ⟨i86, hb⟩ := hb
    refine wp_getR dX12_apart_149 fl_X12_113 i71 (i86.ne (by decide)) ?_
    refine wp_iload_n 4 dX12_apart_152 rfl rfl ?_
    obtain ⟨b87, hb⟩ := hb
    refine wp_laload dX12_apart_153 i86 b87 ?_
    refine wp_aload_n 1 dX12_apart_154 rfl rfl ?_
    obtain ⟨i88, hb⟩ := hb
    refine wp_getR dX12_apart_155 fl_X12_116 i71 (i88.ne (by decide)) ?_
    refine wp_iload_n 4 dX12_apart_158 rfl rfl ?_
    obtain ⟨b89, hb⟩ := hb
    refine wp_laload dX12_apart_159 i88 b89 ?_
    refine wp_callV (as := [.long (h84.2.1 (h84.2.2 x0 46) x3.toNatClampNeg), .long (h84.2.1 (h84.2.2 x0 47) x3.toNatClampNeg)]) dX12_apart_160 cb_X12_unpack lk_X12_377 im_X12_unpack se_X12_unpack rfl (Nat.le_of_ble_eq_true rfl) ⟨by decide, by decide⟩ ⟨Nat.le_refl _, Nat.le_refl _, Nat.le_refl _⟩ i71 rfl (by decide) hb (fun r0 h91 hb => ?_)
    obtain ⟨rfl, hb⟩ := hb
    refine wp_aload_n 1 dX12_apart_163 rfl rfl ?_
    obtain ⟨i92, hb⟩ := hb
    refine wp_aload_n 3 dX12_apart_164 rfl rfl ?_
    refine wp_callV (as := [.ref x2]) dX12_apart_165 cb_X12_possible lk_X12_381 im_X12_possible se_X12_possible rfl (Nat.le_of_ble_eq_true rfl) ⟨by decide, by decide⟩ ⟨Nat.le_refl _, Nat.le_refl _, Nat.le_refl _⟩ i71 rfl (by decide) hb (fun r0 h94 hb => ?_)
    obtain ⟨r95, rfl, hb⟩ := hb
    refine wp_istore (lv2 := [(5, .int r95), (4, .int r85), (0, .ref x0), (1, .ref x1), (2, .ref x2), (3, .int x3)]) dX12_apart_168 (by decide) rfl ?_
    refine wp_iconst (v := 0) dX12_apart_170 (by decide) ?_
    refine wp_istore (lv2 := [(6, .int 0), (5, .int r95), (4, .int r85), (0, .ref x0), (1, .ref x1), (2, .ref x2), (3, .int x3)]) dX12_apart_171 (by decide) rfl ?_
    refine wp_iconst (v := 0) dX12_apart_173 (by decide) ?_
    refine wp_istore (lv2 := [(7, .int 0), (6, .int 0), (5, .int r95), (4, .int r85), (0, .ref x0), (1, .ref x1), (2, .ref x2), (3, .int x3)]) dX12_apart_174 (by decide) rfl ?_
    exact wp_sub [4, 5, 6, 7, 3, 2, 1, 0] rfl hb
set_option maxRecDepth 100000 in
set_option maxHeartbeats 4000000 in
theorem s_X12_apart_176 {l : Launch} {g : AG} {h : AH} {x0 : Nat} {x1 : Nat} {x2 : Nat} {x3 : Int32} {x4 : Int32} {x5 : Int32} {x6 : Int32} {x7 : Int32}  {Q : Int32 → AH → Prop} (hb : ((27 ≤ x7 → (∀ v97 : Int32, v97 = (x5 &&& (x6 ^^^ (-1))) → ( ((¬ v97 = 0 → (L_X12_apart_499 l g h x0 x3 v97 0  Q)) ∧ (v97 = 0 → (∀ v100 : Int32, v100 = x3 + (1) → ( L_X12_apart_116 l g h x0 x1 x2 v100  Q))))))) ∧ (¬ (27 ≤ x7) → (((¬ (jishr x4 x7) &&& 1 = 0 → ((Is 194 x0 11) ∧ ( (Is 194 (h.2.2 x0 46) 21) ∧ ( (vp_in x3 (ax_s (h.2.2 x0 46)).2) ∧ ( (Is 194 (h.2.2 x0 47) 21) ∧ ( (vp_in x3 (ax_s (h.2.2 x0 47)).2) ∧ ( C_X12_unpack l g h x0 (h.2.1 (h.2.2 x0 46) x3.toNatClampNeg) (h.2.1 (h.2.2 x0 47) x3.toNatClampNeg) (fun h109 => ( (Is 194 x1 9) ∧ ( (Is 194 x2 9) ∧ ( C_X12_sameAct l g h109 x0 x1 x2 x7 (fun r114 h113 => ( ((¬ r114 = (-1) → (∀ v116 : Int32, v116 = (x6 ||| (jishl 1 r114)) → ( C_X12_acts l g h113 x0 x2 r114 (fun h119 => ( C_X12_packed l g h119 x0 (fun r122 h121 => ( C_X12_packedVars l g h121 x0 (fun r125 h124 => ( (Is 194 (h124.2.2 x0 44) 21) ∧ ( (vp_in x3 (ax_s (h124.2.2 x0 44)).2) ∧ ( (Is 194 (h124.2.2 x0 45) 21) ∧ ( (vp_in x3 (ax_s (h124.2.2 x0 45)).2) ∧ ( C_X12_unpack l g h124 x0 (h124.2.1 (h124.2.2 x0 44) x3.toNatClampNeg) (h124.2.1 (h124.2.2 x0 45) x3.toNatClampNeg) (fun h131 => ( C_X12_acts l g h131 x0 x1 x7 (fun h133 => ( L_X12_apart_290 l g h133 x0 x1 x2 x3 x4 x5 v116 x7 r122 r125 0  Q))))))))))))))))) ∧ (r114 = (-1) → (C_X12_rowOf l g h113 x0 x3 x7 (fun r136 h135 => ( Q r136 h135)))))))))))))))))) ∧ ((jishr x4 x7) &&& 1 = 0 → (∀ v137 : Int32, v137 = x7 + (1) → ( L_X12_apart_176 l g h x0 x1 x2 x3 x4 x5 x6 v137  Q)))))))) : L_X12_apart_176 l g h x0 x1 x2 x3 x4 x5 x6 x7  Q := by
  refine wp_iload 7 dX12_apart_176 rfl ?_
  refine wp_bipush (v := 27) dX12_apart_178 (by decide) ?_
  refine wp_icmp_ge (tgt := 479) dX12_apart_180 (by decide) (fun c96 => ?_) (fun c96 => ?_)
  · have hb := hb.1 c96
    refine wp_iload 5 dX12_apart_479 rfl ?_
    refine wp_iload 6 dX12_apart_481 rfl ?_
    refine wp_iconst (v := (-1)) dX12_apart_483 (by decide) ?_
    refine wp_ixor dX12_apart_484 ?_
    refine wp_iand dX12_apart_485 ?_
    refine wp_topi (fun v97 e98 => ?_)
    have hb := hb v97 e98
    refine wp_istore (lv2 := [(7, .int v97), (0, .ref x0), (1, .ref x1), (2, .ref x2), (3, .int x3), (4, .int x4), (5, .int x5), (6, .int x6)]) dX12_apart_486 (by decide) rfl ?_
    refine wp_iload 0 dX12_apart_488 rfl ?_
    refine wp_if_ne (tgt := 496) dX12_apart_490 (by decide) (fun c99 => ?_) (fun c99 => ?_)
    · have hb := hb.1 c99
      refine wp_iconst (v := 0) dX12_apart_496 (by decide) ?_
      refine wp_istore (lv2 := [(8, .int 0), (7, .int v97), (0, .ref x0), (1, .ref x1), (2, .ref x2), (3, .int x3), (4, .int x4), (5, .int x5), (6, .int x6)]) dX12_apart_497 (by decide) rfl ?_
      exact wp_sub [2, 5, 1, 0] rfl hb
    · have hb := hb.2 c99
      refine wp_goto (tgt := 526) dX12_apart_493 (by decide) ?_
      obtain ⟨v100, e101⟩ : ∃ y : Int32, y = x3 + (1) := ⟨_, rfl⟩
      have hb := hb v100 e101
      refine wp_iinc (v := v100) (lv2 := [(3, .int v100), (7, .int v97), (0, .ref x0), (1, .ref x1), (2, .ref x2), (4, .int x4), (5, .int x5), (6, .int x6)]) 4 dX12_apart_526 rfl (by rw [e101]; rfl) (by decide) rfl ?_
      refine wp_goto (tgt := 116) dX12_apart_529 (by decide) ?_
      exact wp_sub [2, 3, 4, 0] rfl hb
  · have hb := hb.2 c96
    refine wp_iload 4 dX12_apart_183 rfl ?_
    refine wp_iload 7 dX12_apart_185 rfl ?_
    refine wp_ishr dX12_apart_187 ?_
    refine wp_iconst (v := 1) dX12_apart_188 (by decide) ?_
    refine wp_iand dX12_apart_189 ?_
    refine wp_if_ne (tgt := 196) dX12_apart_190 (by decide) (fun c102 => ?_) (fun c102 => ?_)
    · have hb := hb.1 c102
      obtain ⟨i103, hb⟩ := hb
      refine wp_aload_n 0 dX12_apart_196 rfl rfl ?_
      refine wp_aload_n 0 dX12_apart_197 rfl rfl ?_
      obtain ⟨i104, hb⟩ := hb
      refine wp_getR dX12_apart_198 fl_X12_113 i103 (i104.ne (by decide)) ?_
      refine wp_iload_n 3 dX12_apart_201 rfl rfl ?_
      obtain ⟨b105, hb⟩ := hb
      refine wp_laload dX12_apart_202 i104 b105 ?_
      refine wp_aload_n 0 dX12_apart_203 rfl rfl ?_
      obtain ⟨i106, hb⟩ := hb
      refine wp_getR dX12_apart_204 fl_X12_116 i103 (i106.ne (by decide)) ?_
      refine wp_iload_n 3 dX12_apart_207 rfl rfl ?_
      obtain ⟨b107, hb⟩ := hb
      refine wp_laload dX12_apart_208 i106 b107 ?_
      refine wp_callV (as := [.long (h.2.1 (h.2.2 x0 46) x3.toNatClampNeg), .long (h.2.1 (h.2.2 x0 47) x3.toNatClampNeg)]) dX12_apart_209 cb_X12_unpack lk_X12_377 im_X12_unpack se_X12_unpack rfl (Nat.le_of_ble_eq_true rfl) ⟨by decide, by decide⟩ ⟨Nat.le_refl _, Nat.le_refl _, Nat.le_refl _⟩ i103 rfl (by decide) hb (fun r0 h109 hb => ?_)
      obtain ⟨rfl, hb⟩ := hb
      refine wp_aload_n 0 dX12_apart_212 rfl rfl ?_
      obtain ⟨i110, hb⟩ := hb
      refine wp_aload_n 1 dX12_apart_213 rfl rfl ?_
      obtain ⟨i111, hb⟩ := hb
      refine wp_aload_n 2 dX12_apart_214 rfl rfl ?_
      refine wp_iload 7 dX12_apart_215 rfl ?_
      refine wp_callV (as := [.ref x1, .ref x2, .int x7]) dX12_apart_217 cb_X12_sameAct lk_X12_453 im_X12_sameAct se_X12_sameAct rfl (Nat.le_of_ble_eq_true rfl) ⟨by decide, by decide⟩ ⟨Nat.le_refl _, Nat.le_refl _, Nat.le_refl _⟩ i103 rfl (by decide) hb (fun r0 h113 hb => ?_)
      obtain ⟨r114, rfl, hb⟩ := hb
      refine wp_istore (lv2 := [(8, .int r114), (0, .ref x0), (1, .ref x1), (2, .ref x2), (3, .int x3), (4, .int x4), (5, .int x5), (6, .int x6), (7, .int x7)]) dX12_apart_220 (by decide) rfl ?_
      refine wp_iload 0 dX12_apart_222 rfl ?_
      refine wp_iconst (v := (-1)) dX12_apart_224 (by decide) ?_
      refine wp_icmp_ne (tgt := 236) dX12_apart_225 (by decide) (fun c115 => ?_) (fun c115 => ?_)
      · have hb := hb.1 c115
        refine wp_iload 7 dX12_apart_236 rfl ?_
        refine wp_iconst (v := 1) dX12_apart_238 (by decide) ?_
        refine wp_iload 0 dX12_apart_239 rfl ?_
        refine wp_ishl dX12_apart_241 ?_
        refine wp_ior dX12_apart_242 ?_
        refine wp_topi (fun v116 e117 => ?_)
        have hb := hb v116 e117
        refine wp_istore (lv2 := [(6, .int v116), (8, .int r114), (0, .ref x0), (1, .ref x1), (2, .ref x2), (3, .int x3), (4, .int x4), (5, .int x5), (7, .int x7)]) dX12_apart_243 (by decide) rfl ?_
        refine wp_aload_n 2 dX12_apart_245 rfl rfl ?_
        refine wp_aload_n 4 dX12_apart_246 rfl rfl ?_
        refine wp_iload 1 dX12_apart_247 rfl ?_
        refine wp_callV (as := [.ref x2, .int r114]) dX12_apart_249 cb_X12_acts lk_X12_384 im_X12_acts se_X12_acts rfl (Nat.le_of_ble_eq_true rfl) ⟨by decide, by decide⟩ ⟨Nat.le_refl _, Nat.le_refl _, Nat.le_refl _⟩ i103 rfl (by decide) hb (fun r0 h119 hb => ?_)
        obtain ⟨rfl, hb⟩ := hb
        refine wp_aload_n 2 dX12_apart_252 rfl rfl ?_
        refine wp_callV (as := []) dX12_apart_253 cb_X12_packed lk_X12_327 im_X12_packed se_X12_packed rfl (Nat.le_of_ble_eq_true rfl) ⟨by decide, by decide⟩ ⟨Nat.le_refl _, Nat.le_refl _, Nat.le_refl _⟩ i103 rfl (by decide) hb (fun r0 h121 hb => ?_)
        obtain ⟨r122, rfl, hb⟩ := hb
        refine wp_lstore (lv2 := [(9, .long r122), (6, .int v116), (8, .int r114), (0, .ref x0), (1, .ref x1), (2, .ref x2), (3, .int x3), (4, .int x4), (5, .int x5), (7, .int x7)]) dX12_apart_256 (by decide) rfl ?_
        refine wp_aload_n 3 dX12_apart_258 rfl rfl ?_
        refine wp_callV (as := []) dX12_apart_259 cb_X12_packedVars lk_X12_331 im_X12_packedVars se_X12_packedVars rfl (Nat.le_of_ble_eq_true rfl) ⟨by decide, by decide⟩ ⟨Nat.le_refl _, Nat.le_refl _, Nat.le_refl _⟩ i103 rfl (by decide) hb (fun r0 h124 hb => ?_)
        obtain ⟨r125, rfl, hb⟩ := hb
        refine wp_lstore (lv2 := [(11, .long r125), (9, .long r122), (6, .int v116), (8, .int r114), (0, .ref x0), (1, .ref x1), (2, .ref x2), (3, .int x3), (4, .int x4), (5, .int x5), (7, .int x7)]) dX12_apart_262 (by decide) rfl ?_
        refine wp_aload_n 4 dX12_apart_264 rfl rfl ?_
        refine wp_aload_n 4 dX12_apart_265 rfl rfl ?_
        obtain ⟨i126, hb⟩ := hb
        refine wp_getR dX12_apart_266 fl_X12_107 i103 (i126.ne (by decide)) ?_
        refine wp_iload_n 7 dX12_apart_269 rfl rfl ?_
        obtain ⟨b127, hb⟩ := hb
        refine wp_laload dX12_apart_270 i126 b127 ?_
        refine wp_aload_n 4 dX12_apart_271 rfl rfl ?_
        obtain ⟨i128, hb⟩ := hb
        refine wp_getR dX12_apart_272 fl_X12_110 i103 (i128.ne (by decide)) ?_
        refine wp_iload_n 7 dX12_apart_275 rfl rfl ?_
        obtain ⟨b129, hb⟩ := hb
        refine wp_laload dX12_apart_276 i128 b129 ?_
        refine wp_callV (as := [.long (h124.2.1 (h124.2.2 x0 44) x3.toNatClampNeg), .long (h124.2.1 (h124.2.2 x0 45) x3.toNatClampNeg)]) dX12_apart_277 cb_X12_unpack lk_X12_377 im_X12_unpack se_X12_unpack rfl (Nat.le_of_ble_eq_true rfl) ⟨by decide, by decide⟩ ⟨Nat.le_refl _, Nat.le_refl _, Nat.le_refl _⟩ i103 rfl (by decide) hb (fun r0 h131 hb => ?_)
        obtain ⟨rfl, hb⟩ := hb
        refine wp_aload_n 4 dX12_apart_280 rfl rfl ?_
        refine wp_aload_n 5 dX12_apart_281 rfl rfl ?_
        refine wp_iload 10 dX12_apart_282 rfl ?_
        refine wp_callV (as := [.ref x1, .int x7]) dX12_apart_284 cb_X12_acts lk_X12_384 im_X12_acts se_X12_acts rfl (Nat.le_of_ble_eq_true rfl) ⟨by decide, by decide⟩ ⟨Nat.le_refl _, Nat.le_refl _, Nat.le_refl _⟩ i103 rfl (by decide) hb (fun r0 h133 hb => ?_)
        obtain ⟨rfl, hb⟩ := hb
        refine wp_iconst (v := 0) dX12_apart_287 (by decide) ?_
        refine wp_istore (lv2 := [(13, .int 0), (11, .long r125), (9, .long r122), (6, .int v116), (8, .int r114), (0, .ref x0), (1, .ref x1), (2, .ref x2), (3, .int x3), (4, .int x4), (5, .int x5), (7, .int x7)]) dX12_apart_288 (by decide) rfl ?_
        exact wp_sub [5, 6, 7, 8, 9, 10, 3, 11, 2, 1, 0] rfl hb
      · have hb := hb.2 c115
        refine wp_aload_n 1 dX12_apart_228 rfl rfl ?_
        refine wp_iload_n 4 dX12_apart_229 rfl rfl ?_
        refine wp_iload 8 dX12_apart_230 rfl ?_
        refine wp_callV (as := [.int x3, .int x7]) dX12_apart_232 cb_X12_rowOf lk_X12_450 im_X12_rowOf se_X12_rowOf rfl (Nat.le_of_ble_eq_true rfl) ⟨by decide, by decide⟩ ⟨Nat.le_refl _, Nat.le_refl _, Nat.le_refl _⟩ i103 rfl (by decide) hb (fun r0 h135 hb => ?_)
        obtain ⟨r136, rfl, hb⟩ := hb
        exact wp_iret rfl dX12_apart_235 ⟨_, rfl, hb⟩
    · have hb := hb.2 c102
      refine wp_goto (tgt := 473) dX12_apart_193 (by decide) ?_
      obtain ⟨v137, e138⟩ : ∃ y : Int32, y = x7 + (1) := ⟨_, rfl⟩
      have hb := hb v137 e138
      refine wp_iinc (v := v137) (lv2 := [(7, .int v137), (0, .ref x0), (1, .ref x1), (2, .ref x2), (3, .int x3), (4, .int x4), (5, .int x5), (6, .int x6)]) 7 dX12_apart_473 rfl (by rw [e138]; rfl) (by decide) rfl ?_
      refine wp_goto (tgt := 176) dX12_apart_476 (by decide) ?_
      exact wp_sub [1, 2, 3, 4, 5, 6, 7, 0] rfl hb
set_option maxRecDepth 100000 in
set_option maxHeartbeats 4000000 in
theorem s_X12_apart_499 {l : Launch} {g : AG} {h : AH} {x0 : Nat} {x3 : Int32} {x7 : Int32} {x8 : Int32}  {Q : Int32 → AH → Prop} (hb : ((¬ (jishr x7 x8) &&& 1 = 0 → ((Is 194 x0 11) ∧ ( C_X12_rowOf l g h x0 x3 (100 + x8) (fun r143 h142 => ( Q r143 h142))))) ∧ ((jishr x7 x8) &&& 1 = 0 → (∀ v144 : Int32, v144 = x8 + (1) → ( L_X12_apart_499 l g h x0 x3 x7 v144  Q))))) : L_X12_apart_499 l g h x0 x3 x7 x8  Q := by
  refine wp_iload 2 dX12_apart_499 rfl ?_
  refine wp_iload 3 dX12_apart_501 rfl ?_
  refine wp_ishr dX12_apart_503 ?_
  refine wp_iconst (v := 1) dX12_apart_504 (by decide) ?_
  refine wp_iand dX12_apart_505 ?_
  refine wp_if_ne (tgt := 515) dX12_apart_506 (by decide) (fun c139 => ?_) (fun c139 => ?_)
  · have hb := hb.1 c139
    obtain ⟨i140, hb⟩ := hb
    refine wp_aload_n 0 dX12_apart_515 rfl rfl ?_
    refine wp_iload_n 1 dX12_apart_516 rfl rfl ?_
    refine wp_bipush (v := 100) dX12_apart_517 (by decide) ?_
    refine wp_iload 3 dX12_apart_519 rfl ?_
    refine wp_iadd dX12_apart_521 ?_
    refine wp_callV (as := [.int x3, .int (100 + x8)]) dX12_apart_522 cb_X12_rowOf lk_X12_450 im_X12_rowOf se_X12_rowOf rfl (Nat.le_of_ble_eq_true rfl) ⟨by decide, by decide⟩ ⟨Nat.le_refl _, Nat.le_refl _, Nat.le_refl _⟩ i140 rfl (by decide) hb (fun r0 h142 hb => ?_)
    obtain ⟨r143, rfl, hb⟩ := hb
    exact wp_iret rfl dX12_apart_525 ⟨_, rfl, hb⟩
  · have hb := hb.2 c139
    obtain ⟨v144, e145⟩ : ∃ y : Int32, y = x8 + (1) := ⟨_, rfl⟩
    have hb := hb v144 e145
    refine wp_iinc (v := v144) (lv2 := [(8, .int v144), (0, .ref x0), (3, .int x3), (7, .int x7)]) 3 dX12_apart_509 rfl (by rw [e145]; rfl) (by decide) rfl ?_
    refine wp_goto (tgt := 499) dX12_apart_512 (by decide) ?_
    exact wp_sub [1, 2, 3, 0] rfl hb
set_option maxRecDepth 100000 in
set_option maxHeartbeats 4000000 in
theorem s_X12_apart_290 {l : Launch} {g : AG} {h : AH} {x0 : Nat} {x1 : Nat} {x2 : Nat} {x3 : Int32} {x4 : Int32} {x5 : Int32} {x6 : Int32} {x7 : Int32} {x9 : Int64} {x11 : Int64} {x13 : Int32}  {Q : Int32 → AH → Prop} (hb : (Is 194 x0 11) ∧ ( ((h.1 x0 43 ≤ x13 → (L_X12_apart_361 l g h x0 x1 x2 x3 x4 x5 x6 x7 x9 x11 x13  Q)) ∧ (¬ (h.1 x0 43 ≤ x13) → ((Is 194 (h.2.2 x0 44) 21) ∧ ( (vp_in x13 (ax_s (h.2.2 x0 44)).2) ∧ ( C_X12_packed l g h x0 (fun r152 h151 => ( ((¬ lg_cmp (h.2.1 (h.2.2 x0 44) x13.toNatClampNeg) r152 = 0 → (∀ v154 : Int32, v154 = x13 + (1) → ( L_X12_apart_290 l g h151 x0 x1 x2 x3 x4 x5 x6 x7 x9 x11 v154  Q))) ∧ (lg_cmp (h.2.1 (h.2.2 x0 44) x13.toNatClampNeg) r152 = 0 → ((Is 194 (h151.2.2 x0 45) 21) ∧ ( (vp_in x13 (ax_s (h151.2.2 x0 45)).2) ∧ ( C_X12_packedVars l g h151 x0 (fun r160 h159 => ( ((¬ lg_cmp (h151.2.1 (h151.2.2 x0 45) x13.toNatClampNeg) r160 = 0 → (∀ v162 : Int32, v162 = x13 + (1) → ( L_X12_apart_290 l g h159 x0 x1 x2 x3 x4 x5 x6 x7 x9 x11 v162  Q))) ∧ (lg_cmp (h151.2.1 (h151.2.2 x0 45) x13.toNatClampNeg) r160 = 0 → ((Is 194 (h159.2.2 x0 46) 21) ∧ ( (vp_in x13 (ax_s (h159.2.2 x0 46)).2) ∧ ( ((¬ lg_cmp (h159.2.1 (h159.2.2 x0 46) x13.toNatClampNeg) x9 = 0 → (∀ v167 : Int32, v167 = x13 + (1) → ( L_X12_apart_290 l g h159 x0 x1 x2 x3 x4 x5 x6 x7 x9 x11 v167  Q))) ∧ (lg_cmp (h159.2.1 (h159.2.2 x0 46) x13.toNatClampNeg) x9 = 0 → ((Is 194 (h159.2.2 x0 47) 21) ∧ ( (vp_in x13 (ax_s (h159.2.2 x0 47)).2) ∧ ( ((lg_cmp (h159.2.1 (h159.2.2 x0 47) x13.toNatClampNeg) x11 = 0 → (L_X12_apart_361 l g h159 x0 x1 x2 x3 x4 x5 x6 x7 x9 x11 x13  Q)) ∧ (¬ (lg_cmp (h159.2.1 (h159.2.2 x0 47) x13.toNatClampNeg) x11 = 0) → (∀ v172 : Int32, v172 = x13 + (1) → ( L_X12_apart_290 l g h159 x0 x1 x2 x3 x4 x5 x6 x7 x9 x11 v172  Q)))))))))))))))))))))))))))))) : L_X12_apart_290 l g h x0 x1 x2 x3 x4 x5 x6 x7 x9 x11 x13  Q := by
  refine wp_iload 10 dX12_apart_290 rfl ?_
  obtain ⟨i146, hb⟩ := hb
  refine wp_aload_n 0 dX12_apart_292 rfl rfl ?_
  refine wp_getI dX12_apart_293 fl_X12_444 i146 ?_
  refine wp_icmp_ge (tgt := 361) dX12_apart_296 (by decide) (fun c147 => ?_) (fun c147 => ?_)
  · have hb := hb.1 c147
    exact hb
  · have hb := hb.2 c147
    refine wp_aload_n 0 dX12_apart_299 rfl rfl ?_
    obtain ⟨i148, hb⟩ := hb
    refine wp_getR dX12_apart_300 fl_X12_107 i146 (i148.ne (by decide)) ?_
    refine wp_iload 10 dX12_apart_303 rfl ?_
    obtain ⟨b149, hb⟩ := hb
    refine wp_laload dX12_apart_305 i148 b149 ?_
    refine wp_aload_n 0 dX12_apart_306 rfl rfl ?_
    refine wp_callV (as := []) dX12_apart_307 cb_X12_packed lk_X12_327 im_X12_packed se_X12_packed rfl (Nat.le_of_ble_eq_true rfl) ⟨by decide, by decide⟩ ⟨Nat.le_refl _, Nat.le_refl _, Nat.le_refl _⟩ i146 rfl (by decide) hb (fun r0 h151 hb => ?_)
    obtain ⟨r152, rfl, hb⟩ := hb
    refine wp_lcmp dX12_apart_310 ?_
    refine wp_if_ne (tgt := 355) dX12_apart_311 (by decide) (fun c153 => ?_) (fun c153 => ?_)
    · have hb := hb.1 c153
      obtain ⟨v154, e155⟩ : ∃ y : Int32, y = x13 + (1) := ⟨_, rfl⟩
      have hb := hb v154 e155
      refine wp_iinc (v := v154) (lv2 := [(13, .int v154), (0, .ref x0), (1, .ref x1), (2, .ref x2), (3, .int x3), (4, .int x4), (5, .int x5), (6, .int x6), (7, .int x7), (9, .long x9), (11, .long x11)]) 10 dX12_apart_355 rfl (by rw [e155]; rfl) (by decide) rfl ?_
      refine wp_goto (tgt := 290) dX12_apart_358 (by decide) ?_
      exact wp_sub [1, 2, 3, 4, 5, 6, 7, 8, 9, 10, 0] rfl hb
    · have hb := hb.2 c153
      refine wp_aload_n 0 dX12_apart_314 rfl rfl ?_
      obtain ⟨i156, hb⟩ := hb
      refine wp_getR dX12_apart_315 fl_X12_110 i146 (i156.ne (by decide)) ?_
      refine wp_iload 10 dX12_apart_318 rfl ?_
      obtain ⟨b157, hb⟩ := hb
      refine wp_laload dX12_apart_320 i156 b157 ?_
      refine wp_aload_n 0 dX12_apart_321 rfl rfl ?_
      refine wp_callV (as := []) dX12_apart_322 cb_X12_packedVars lk_X12_331 im_X12_packedVars se_X12_packedVars rfl (Nat.le_of_ble_eq_true rfl) ⟨by decide, by decide⟩ ⟨Nat.le_refl _, Nat.le_refl _, Nat.le_refl _⟩ i146 rfl (by decide) hb (fun r0 h159 hb => ?_)
      obtain ⟨r160, rfl, hb⟩ := hb
      refine wp_lcmp dX12_apart_325 ?_
      refine wp_if_ne (tgt := 355) dX12_apart_326 (by decide) (fun c161 => ?_) (fun c161 => ?_)
      · have hb := hb.1 c161
        obtain ⟨v162, e163⟩ : ∃ y : Int32, y = x13 + (1) := ⟨_, rfl⟩
        have hb := hb v162 e163
        refine wp_iinc (v := v162) (lv2 := [(13, .int v162), (0, .ref x0), (1, .ref x1), (2, .ref x2), (3, .int x3), (4, .int x4), (5, .int x5), (6, .int x6), (7, .int x7), (9, .long x9), (11, .long x11)]) 10 dX12_apart_355 rfl (by rw [e163]; rfl) (by decide) rfl ?_
        refine wp_goto (tgt := 290) dX12_apart_358 (by decide) ?_
        exact wp_sub [1, 2, 3, 4, 5, 6, 7, 8, 9, 10, 0] rfl hb
      · have hb := hb.2 c161
        refine wp_aload_n 0 dX12_apart_329 rfl rfl ?_
        obtain ⟨i164, hb⟩ := hb
        refine wp_getR dX12_apart_330 fl_X12_113 i146 (i164.ne (by decide)) ?_
        refine wp_iload 10 dX12_apart_333 rfl ?_
        obtain ⟨b165, hb⟩ := hb
        refine wp_laload dX12_apart_335 i164 b165 ?_
        refine wp_lload 8 dX12_apart_336 rfl ?_
        refine wp_lcmp dX12_apart_338 ?_
        refine wp_if_ne (tgt := 355) dX12_apart_339 (by decide) (fun c166 => ?_) (fun c166 => ?_)
        · have hb := hb.1 c166
          obtain ⟨v167, e168⟩ : ∃ y : Int32, y = x13 + (1) := ⟨_, rfl⟩
          have hb := hb v167 e168
          refine wp_iinc (v := v167) (lv2 := [(13, .int v167), (0, .ref x0), (1, .ref x1), (2, .ref x2), (3, .int x3), (4, .int x4), (5, .int x5), (6, .int x6), (7, .int x7), (9, .long x9), (11, .long x11)]) 10 dX12_apart_355 rfl (by rw [e168]; rfl) (by decide) rfl ?_
          refine wp_goto (tgt := 290) dX12_apart_358 (by decide) ?_
          exact wp_sub [1, 2, 3, 4, 5, 6, 7, 8, 9, 10, 0] rfl hb
        · have hb := hb.2 c166
          refine wp_aload_n 0 dX12_apart_342 rfl rfl ?_
          obtain ⟨i169, hb⟩ := hb
          refine wp_getR dX12_apart_343 fl_X12_116 i146 (i169.ne (by decide)) ?_
          refine wp_iload 10 dX12_apart_346 rfl ?_
          obtain ⟨b170, hb⟩ := hb
          refine wp_laload dX12_apart_348 i169 b170 ?_
          refine wp_lload 9 dX12_apart_349 rfl ?_
          refine wp_lcmp dX12_apart_351 ?_
          refine wp_if_eq (tgt := 361) dX12_apart_352 (by decide) (fun c171 => ?_) (fun c171 => ?_)
          · have hb := hb.1 c171
            exact hb
          · have hb := hb.2 c171
            obtain ⟨v172, e173⟩ : ∃ y : Int32, y = x13 + (1) := ⟨_, rfl⟩
            have hb := hb v172 e173
            refine wp_iinc (v := v172) (lv2 := [(13, .int v172), (0, .ref x0), (1, .ref x1), (2, .ref x2), (3, .int x3), (4, .int x4), (5, .int x5), (6, .int x6), (7, .int x7), (9, .long x9), (11, .long x11)]) 10 dX12_apart_355 rfl (by rw [e173]; rfl) (by decide) rfl ?_
            refine wp_goto (tgt := 290) dX12_apart_358 (by decide) ?_
            exact wp_sub [1, 2, 3, 4, 5, 6, 7, 8, 9, 10, 0] rfl hb
set_option maxRecDepth 100000 in
set_option maxHeartbeats 4000000 in
theorem s_X12_apart_361 {l : Launch} {g : AG} {h : AH} {x0 : Nat} {x1 : Nat} {x2 : Nat} {x3 : Int32} {x4 : Int32} {x5 : Int32} {x6 : Int32} {x7 : Int32} {x9 : Int64} {x11 : Int64} {x13 : Int32}  {Q : Int32 → AH → Prop} (hb : (Is 194 x0 11) ∧ ( ((h.1 x0 43 ≤ x13 → (((¬ h.1 x0 43 = 400 → ((Is 194 (h.2.2 x0 44) 21) ∧ ( C_X12_packed l g h x0 (fun r180 h179 => ( (vp_in x13 (ax_s (h.2.2 x0 44)).2) ∧ ( ∀ h182 : AH, h182 = ax_setL h179 (h.2.2 x0 44) x13.toNatClampNeg r180 → ( (Is 194 (h182.2.2 x0 45) 21) ∧ ( C_X12_packedVars l g h182 x0 (fun r187 h186 => ( (vp_in x13 (ax_s (h182.2.2 x0 45)).2) ∧ ( ∀ h189 : AH, h189 = ax_setL h186 (h182.2.2 x0 45) x13.toNatClampNeg r187 → ( (Is 194 (h189.2.2 x0 46) 21) ∧ ( (vp_in x13 (ax_s (h189.2.2 x0 46)).2) ∧ ( ∀ h193 : AH, h193 = ax_setL h189 (h189.2.2 x0 46) x13.toNatClampNeg x9 → ( (Is 194 (h193.2.2 x0 47) 21) ∧ ( (vp_in x13 (ax_s (h193.2.2 x0 47)).2) ∧ ( ∀ h197 : AH, h197 = ax_setL h193 (h193.2.2 x0 47) x13.toNatClampNeg x11 → ( (Is 194 (h197.2.2 x0 48) 20) ∧ ( (vp_in x13 (ax_s (h197.2.2 x0 48)).2) ∧ ( ∀ h201 : AH, h201 = ax_setI h197 (h197.2.2 x0 48) x13.toNatClampNeg x3 → ( (Is 194 (h201.2.2 x0 49) 20) ∧ ( (vp_in x13 (ax_s (h201.2.2 x0 49)).2) ∧ ( ∀ h205 : AH, h205 = ax_setI h201 (h201.2.2 x0 49) x13.toNatClampNeg x7 → ( ∀ h207 : AH, h207 = ax_setI h205 x0 43 ((h205.1 x0 43) + 1) → ( C_X12_isAlike l g h207 x0 x13 (fun r211 h210 => ( ((¬ r211 = 0 → (∀ v213 : Int32, v213 = x7 + (1) → ( L_X12_apart_176 l g h210 x0 x1 x2 x3 x4 x5 x6 v213  Q))) ∧ (r211 = 0 → (C_X12_rowOf l g h210 x0 x13 (-1) (fun r217 h216 => ( Q r217 h216)))))))))))))))))))))))))))))))) ∧ (h.1 x0 43 = 400 → (C_X12_refused l g h x0 5 (fun r220 h219 => ( Q r220 h219))))))) ∧ (¬ (h.1 x0 43 ≤ x13) → (∀ v221 : Int32, v221 = x7 + (1) → ( L_X12_apart_176 l g h x0 x1 x2 x3 x4 x5 x6 v221  Q)))))) : L_X12_apart_361 l g h x0 x1 x2 x3 x4 x5 x6 x7 x9 x11 x13  Q := by
  refine wp_iload 10 dX12_apart_361 rfl ?_
  obtain ⟨i174, hb⟩ := hb
  refine wp_aload_n 0 dX12_apart_363 rfl rfl ?_
  refine wp_getI dX12_apart_364 fl_X12_444 i174 ?_
  refine wp_icmp_ge (tgt := 373) dX12_apart_367 (by decide) (fun c175 => ?_) (fun c175 => ?_)
  · have hb := hb.1 c175
    refine wp_aload_n 0 dX12_apart_373 rfl rfl ?_
    refine wp_getI dX12_apart_374 fl_X12_444 i174 ?_
    refine wp_sipush (v := 400) dX12_apart_377 (by decide) ?_
    refine wp_icmp_ne (tgt := 389) dX12_apart_380 (by decide) (fun c176 => ?_) (fun c176 => ?_)
    · have hb := hb.1 c176
      refine wp_aload_n 0 dX12_apart_389 rfl rfl ?_
      obtain ⟨i177, hb⟩ := hb
      refine wp_getR dX12_apart_390 fl_X12_107 i174 (i177.ne (by decide)) ?_
      refine wp_iload 10 dX12_apart_393 rfl ?_
      refine wp_aload_n 0 dX12_apart_395 rfl rfl ?_
      refine wp_callV (as := []) dX12_apart_396 cb_X12_packed lk_X12_327 im_X12_packed se_X12_packed rfl (Nat.le_of_ble_eq_true rfl) ⟨by decide, by decide⟩ ⟨Nat.le_refl _, Nat.le_refl _, Nat.le_refl _⟩ i174 rfl (by decide) hb (fun r0 h179 hb => ?_)
      obtain ⟨r180, rfl, hb⟩ := hb
      obtain ⟨b181, hb⟩ := hb
      refine wp_lastore dX12_apart_399 i177 b181 ?_
      refine wp_topH (fun h182 e183 => ?_)
      have hb := hb h182 e183
      refine wp_aload_n 0 dX12_apart_400 rfl rfl ?_
      obtain ⟨i184, hb⟩ := hb
      refine wp_getR dX12_apart_401 fl_X12_110 i174 (i184.ne (by decide)) ?_
      refine wp_iload 10 dX12_apart_404 rfl ?_
      refine wp_aload_n 0 dX12_apart_406 rfl rfl ?_
      refine wp_callV (as := []) dX12_apart_407 cb_X12_packedVars lk_X12_331 im_X12_packedVars se_X12_packedVars rfl (Nat.le_of_ble_eq_true rfl) ⟨by decide, by decide⟩ ⟨Nat.le_refl _, Nat.le_refl _, Nat.le_refl _⟩ i174 rfl (by decide) hb (fun r0 h186 hb => ?_)
      obtain ⟨r187, rfl, hb⟩ := hb
      obtain ⟨b188, hb⟩ := hb
      refine wp_lastore dX12_apart_410 i184 b188 ?_
      refine wp_topH (fun h189 e190 => ?_)
      have hb := hb h189 e190
      refine wp_aload_n 0 dX12_apart_411 rfl rfl ?_
      obtain ⟨i191, hb⟩ := hb
      refine wp_getR dX12_apart_412 fl_X12_113 i174 (i191.ne (by decide)) ?_
      refine wp_iload 10 dX12_apart_415 rfl ?_
      refine wp_lload 8 dX12_apart_417 rfl ?_
      obtain ⟨b192, hb⟩ := hb
      refine wp_lastore dX12_apart_419 i191 b192 ?_
      refine wp_topH (fun h193 e194 => ?_)
      have hb := hb h193 e194
      refine wp_aload_n 0 dX12_apart_420 rfl rfl ?_
      obtain ⟨i195, hb⟩ := hb
      refine wp_getR dX12_apart_421 fl_X12_116 i174 (i195.ne (by decide)) ?_
      refine wp_iload 10 dX12_apart_424 rfl ?_
      refine wp_lload 9 dX12_apart_426 rfl ?_
      obtain ⟨b196, hb⟩ := hb
      refine wp_lastore dX12_apart_428 i195 b196 ?_
      refine wp_topH (fun h197 e198 => ?_)
      have hb := hb h197 e198
      refine wp_aload_n 0 dX12_apart_429 rfl rfl ?_
      obtain ⟨i199, hb⟩ := hb
      refine wp_getR dX12_apart_430 fl_X12_119 i174 (i199.ne (by decide)) ?_
      refine wp_iload 10 dX12_apart_433 rfl ?_
      refine wp_iload_n 3 dX12_apart_435 rfl rfl ?_
      obtain ⟨b200, hb⟩ := hb
      refine wp_iastore dX12_apart_436 i199 b200 ?_
      refine wp_topH (fun h201 e202 => ?_)
      have hb := hb h201 e202
      refine wp_aload_n 0 dX12_apart_437 rfl rfl ?_
      obtain ⟨i203, hb⟩ := hb
      refine wp_getR dX12_apart_438 fl_X12_122 i174 (i203.ne (by decide)) ?_
      refine wp_iload 10 dX12_apart_441 rfl ?_
      refine wp_iload 7 dX12_apart_443 rfl ?_
      obtain ⟨b204, hb⟩ := hb
      refine wp_iastore dX12_apart_445 i203 b204 ?_
      refine wp_topH (fun h205 e206 => ?_)
      have hb := hb h205 e206
      refine wp_aload_n 0 dX12_apart_446 rfl rfl ?_
      refine wp_dup dX12_apart_447 rfl ?_
      refine wp_getI dX12_apart_448 fl_X12_444 i174 ?_
      refine wp_iconst (v := 1) dX12_apart_451 (by decide) ?_
      refine wp_iadd dX12_apart_452 ?_
      refine wp_putI dX12_apart_453 fl_X12_444 (Or.inl rfl) i174 ?_
      refine wp_topH (fun h207 e208 => ?_)
      have hb := hb h207 e208
      refine wp_aload_n 0 dX12_apart_456 rfl rfl ?_
      refine wp_iload 10 dX12_apart_457 rfl ?_
      refine wp_callV (as := [.int x13]) dX12_apart_459 cb_X12_isAlike lk_X12_447 im_X12_isAlike se_X12_isAlike rfl (Nat.le_of_ble_eq_true rfl) ⟨by decide, by decide⟩ ⟨Nat.le_refl _, Nat.le_refl _, Nat.le_refl _⟩ i174 rfl (by decide) hb (fun r0 h210 hb => ?_)
      obtain ⟨r211, rfl, hb⟩ := hb
      refine wp_if_ne (tgt := 473) dX12_apart_462 (by decide) (fun c212 => ?_) (fun c212 => ?_)
      · have hb := hb.1 c212
        obtain ⟨v213, e214⟩ : ∃ y : Int32, y = x7 + (1) := ⟨_, rfl⟩
        have hb := hb v213 e214
        refine wp_iinc (v := v213) (lv2 := [(7, .int v213), (0, .ref x0), (1, .ref x1), (2, .ref x2), (3, .int x3), (4, .int x4), (5, .int x5), (6, .int x6), (9, .long x9), (11, .long x11), (13, .int x13)]) 7 dX12_apart_473 rfl (by rw [e214]; rfl) (by decide) rfl ?_
        refine wp_goto (tgt := 176) dX12_apart_476 (by decide) ?_
        exact wp_sub [1, 2, 3, 4, 5, 6, 7, 0] rfl hb
      · have hb := hb.2 c212
        refine wp_aload_n 0 dX12_apart_465 rfl rfl ?_
        refine wp_iload 10 dX12_apart_466 rfl ?_
        refine wp_iconst (v := (-1)) dX12_apart_468 (by decide) ?_
        refine wp_callV (as := [.int x13, .int (-1)]) dX12_apart_469 cb_X12_rowOf lk_X12_450 im_X12_rowOf se_X12_rowOf rfl (Nat.le_of_ble_eq_true rfl) ⟨by decide, by decide⟩ ⟨Nat.le_refl _, Nat.le_refl _, Nat.le_refl _⟩ i174 rfl (by decide) hb (fun r0 h216 hb => ?_)
        obtain ⟨r217, rfl, hb⟩ := hb
        exact wp_iret rfl dX12_apart_472 ⟨_, rfl, hb⟩
    · have hb := hb.2 c176
      refine wp_aload_n 0 dX12_apart_383 rfl rfl ?_
      refine wp_iconst (v := 5) dX12_apart_384 (by decide) ?_
      refine wp_callV (as := [.int 5]) dX12_apart_385 cb_X12_refused lk_X12_316 im_X12_refused se_X12_refused rfl (Nat.le_of_ble_eq_true rfl) ⟨by decide, by decide⟩ ⟨Nat.le_refl _, Nat.le_refl _, Nat.le_refl _⟩ i174 rfl (by decide) hb (fun r0 h219 hb => ?_)
      obtain ⟨r220, rfl, hb⟩ := hb
      exact wp_iret rfl dX12_apart_388 ⟨_, rfl, hb⟩
  · have hb := hb.2 c175
    refine wp_goto (tgt := 473) dX12_apart_370 (by decide) ?_
    obtain ⟨v221, e222⟩ : ∃ y : Int32, y = x7 + (1) := ⟨_, rfl⟩
    have hb := hb v221 e222
    refine wp_iinc (v := v221) (lv2 := [(7, .int v221), (0, .ref x0), (1, .ref x1), (2, .ref x2), (3, .int x3), (4, .int x4), (5, .int x5), (6, .int x6), (9, .long x9), (11, .long x11), (13, .int x13)]) 7 dX12_apart_473 rfl (by rw [e222]; rfl) (by decide) rfl ?_
    refine wp_goto (tgt := 176) dX12_apart_476 (by decide) ?_
    exact wp_sub [1, 2, 3, 4, 5, 6, 7, 0] rfl hb
theorem c_X12_apart {l : Launch} {g : AG} {h : AH} {x0 : Nat}  {Q : Int32 → AH → Prop} (hb : L_X12_apart_0 l g h x0  Q) : C_X12_apart l g h x0  Q := ax_met rfl rfl (Nat.le_of_ble_eq_true rfl) hb
