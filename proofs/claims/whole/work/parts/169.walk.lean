def C_X12_isSeen (l : Launch) (g : AG) (h : AH) (x0 : Nat) (x1 : Nat)  (Q : Int32 → AH → Prop) : Prop := Ct l g mX12_isSeen 1 27 194 194 h [.ref x0, .ref x1] (ax_QI Q)
def L_X12_isSeen_0 (l : Launch) (g : AG) (h : AH) (x0 : Nat) (x1 : Nat)  (Q : Int32 → AH → Prop) : Prop := Wp l g mX12_isSeen 1 27 194 194 194 0 [(0, .ref x0), (1, .ref x1)] [] h (FM g 194 194 (ax_QI Q))
def L_X12_isSeen_70 (l : Launch) (g : AG) (h : AH) (x0 : Nat) (x1 : Nat) (x2 : Int32) (x3 : Int32) (x4 : Int32)  (Q : Int32 → AH → Prop) : Prop := Wp l g mX12_isSeen 1 27 194 194 194 70 [(0, .ref x0), (1, .ref x1), (2, .int x2), (3, .int x3), (4, .int x4)] [] h (FM g 194 194 (ax_QI Q))
def L_X12_isSeen_135 (l : Launch) (g : AG) (h : AH) (x0 : Nat) (x1 : Nat) (x3 : Int32) (x4 : Int32) (x5 : Int32) (x6 : Int32)  (Q : Int32 → AH → Prop) : Prop := Wp l g mX12_isSeen 1 27 194 194 194 135 [(0, .ref x0), (1, .ref x1), (3, .int x3), (4, .int x4), (5, .int x5), (6, .int x6)] [] h (FM g 194 194 (ax_QI Q))
def L_X12_isSeen_199 (l : Launch) (g : AG) (h : AH) (x0 : Nat) (x3 : Int32) (x5 : Int32)  (Q : Int32 → AH → Prop) : Prop := Wp l g mX12_isSeen 1 27 194 194 194 199 [(0, .ref x0), (3, .int x3), (5, .int x5)] [] h (FM g 194 194 (ax_QI Q))
set_option maxRecDepth 100000 in
set_option maxHeartbeats 4000000 in
theorem s_X12_isSeen_0 {l : Launch} {g : AG} {h : AH} {x0 : Nat} {x1 : Nat}  {Q : Int32 → AH → Prop} (hb : (Is 194 x0 11) ∧ ( ((h.1 x0 19 = h.1 x0 50 → (((h.1 x0 19 ≤ 0 → ((Is 194 (h.2.2 x0 21) 20) ∧ ( (vp_in ((h.1 x0 20) - 1) (ax_s (h.2.2 x0 21)).2) ∧ ( ∀ v6 : Int32, v6 = (h.1 (h.2.2 x0 21) ((h.1 x0 20) - 1).toNatClampNeg) → ( (Is 194 x1 9) ∧ ( (Is 194 (h.2.2 x1 3) 21) ∧ ( (vp_in v6 (ax_s (h.2.2 x1 3)).2) ∧ ( ((¬ lg_cmp (h.2.1 (h.2.2 x1 3) v6.toNatClampNeg) (h.2.1 x0 53) = 0 → (L_X12_isSeen_70 l g h x0 x1 v6 0 0  Q)) ∧ (lg_cmp (h.2.1 (h.2.2 x1 3) v6.toNatClampNeg) (h.2.1 x0 53) = 0 → ((Is 194 (h.2.2 x1 7) 20) ∧ ( (vp_in v6 (ax_s (h.2.2 x1 7)).2) ∧ ( ((¬ h.1 (h.2.2 x1 7) v6.toNatClampNeg = h.1 x0 51 → (L_X12_isSeen_70 l g h x0 x1 v6 0 0  Q)) ∧ (h.1 (h.2.2 x1 7) v6.toNatClampNeg = h.1 x0 51 → (L_X12_isSeen_70 l g h x0 x1 v6 1 0  Q)))))))))))))))) ∧ (¬ (h.1 x0 19 ≤ 0) → (Q 1 h))))) ∧ (¬ (h.1 x0 19 = h.1 x0 50) → (Q 0 h))))) : L_X12_isSeen_0 l g h x0 x1  Q := by
  obtain ⟨i1, hb⟩ := hb
  refine wp_aload_n 0 dX12_isSeen_0 rfl rfl ?_
  refine wp_getI dX12_isSeen_1 fl_X12_343 i1 ?_
  refine wp_aload_n 0 dX12_isSeen_4 rfl rfl ?_
  refine wp_getI dX12_isSeen_5 fl_X12_425 i1 ?_
  refine wp_icmp_eq (tgt := 13) dX12_isSeen_8 (by decide) (fun c2 => ?_) (fun c2 => ?_)
  · have hb := hb.1 c2
    refine wp_aload_n 0 dX12_isSeen_13 rfl rfl ?_
    refine wp_getI dX12_isSeen_14 fl_X12_343 i1 ?_
    refine wp_if_le (tgt := 22) dX12_isSeen_17 (by decide) (fun c3 => ?_) (fun c3 => ?_)
    · have hb := hb.1 c3
      refine wp_aload_n 0 dX12_isSeen_22 rfl rfl ?_
      obtain ⟨i4, hb⟩ := hb
      refine wp_getR dX12_isSeen_23 fl_X12_52 i1 (i4.ne (by decide)) ?_
      refine wp_aload_n 0 dX12_isSeen_26 rfl rfl ?_
      refine wp_getI dX12_isSeen_27 fl_X12_346 i1 ?_
      refine wp_iconst (v := 1) dX12_isSeen_30 (by decide) ?_
      refine wp_isub dX12_isSeen_31 ?_
      obtain ⟨b5, hb⟩ := hb
      refine wp_iaload dX12_isSeen_32 i4 b5 ?_
      refine wp_topi (fun v6 e7 => ?_)
      have hb := hb v6 e7
      refine wp_istore_n (lv2 := [(2, .int v6), (0, .ref x0), (1, .ref x1)]) dX12_isSeen_33 rfl (by decide) rfl ?_
      obtain ⟨i8, hb⟩ := hb
      refine wp_aload_n 2 dX12_isSeen_34 rfl rfl ?_
      obtain ⟨i9, hb⟩ := hb
      refine wp_getR dX12_isSeen_35 fl_X12_228 i8 (i9.ne (by decide)) ?_
      refine wp_iload_n 0 dX12_isSeen_38 rfl rfl ?_
      obtain ⟨b10, hb⟩ := hb
      refine wp_laload dX12_isSeen_39 i9 b10 ?_
      refine wp_aload_n 1 dX12_isSeen_40 rfl rfl ?_
      refine wp_getL dX12_isSeen_41 fl_X12_434 i1 ?_
      refine wp_lcmp dX12_isSeen_44 ?_
      refine wp_if_ne (tgt := 65) dX12_isSeen_45 (by decide) (fun c11 => ?_) (fun c11 => ?_)
      · have hb := hb.1 c11
        refine wp_iconst (v := 0) dX12_isSeen_65 (by decide) ?_
        refine wp_istore_n (lv2 := [(3, .int 0), (2, .int v6), (0, .ref x0), (1, .ref x1)]) dX12_isSeen_66 rfl (by decide) rfl ?_
        refine wp_iconst (v := 0) dX12_isSeen_67 (by decide) ?_
        refine wp_istore (lv2 := [(4, .int 0), (3, .int 0), (2, .int v6), (0, .ref x0), (1, .ref x1)]) dX12_isSeen_68 (by decide) rfl ?_
        exact wp_sub [3, 4, 2, 1, 0] rfl hb
      · have hb := hb.2 c11
        refine wp_aload_n 2 dX12_isSeen_48 rfl rfl ?_
        obtain ⟨i12, hb⟩ := hb
        refine wp_getR dX12_isSeen_49 fl_X12_252 i8 (i12.ne (by decide)) ?_
        refine wp_iload_n 0 dX12_isSeen_52 rfl rfl ?_
        obtain ⟨b13, hb⟩ := hb
        refine wp_iaload dX12_isSeen_53 i12 b13 ?_
        refine wp_aload_n 1 dX12_isSeen_54 rfl rfl ?_
        refine wp_getI dX12_isSeen_55 fl_X12_428 i1 ?_
        refine wp_icmp_ne (tgt := 65) dX12_isSeen_58 (by decide) (fun c14 => ?_) (fun c14 => ?_)
        · have hb := hb.1 c14
          refine wp_iconst (v := 0) dX12_isSeen_65 (by decide) ?_
          refine wp_istore_n (lv2 := [(3, .int 0), (2, .int v6), (0, .ref x0), (1, .ref x1)]) dX12_isSeen_66 rfl (by decide) rfl ?_
          refine wp_iconst (v := 0) dX12_isSeen_67 (by decide) ?_
          refine wp_istore (lv2 := [(4, .int 0), (3, .int 0), (2, .int v6), (0, .ref x0), (1, .ref x1)]) dX12_isSeen_68 (by decide) rfl ?_
          exact wp_sub [3, 4, 2, 1, 0] rfl hb
        · have hb := hb.2 c14
          refine wp_iconst (v := 1) dX12_isSeen_61 (by decide) ?_
          refine wp_goto (tgt := 66) dX12_isSeen_62 (by decide) ?_
          refine wp_istore_n (lv2 := [(3, .int 1), (2, .int v6), (0, .ref x0), (1, .ref x1)]) dX12_isSeen_66 rfl (by decide) rfl ?_
          refine wp_iconst (v := 0) dX12_isSeen_67 (by decide) ?_
          refine wp_istore (lv2 := [(4, .int 0), (3, .int 1), (2, .int v6), (0, .ref x0), (1, .ref x1)]) dX12_isSeen_68 (by decide) rfl ?_
          exact wp_sub [3, 4, 2, 1, 0] rfl hb
    · have hb := hb.2 c3
      refine wp_iconst (v := 1) dX12_isSeen_20 (by decide) ?_
      exact wp_zret rfl dX12_isSeen_21 (Or.inr rfl) ⟨_, rfl, hb⟩
  · have hb := hb.2 c2
    refine wp_iconst (v := 0) dX12_isSeen_11 (by decide) ?_
    exact wp_zret rfl dX12_isSeen_12 (Or.inl rfl) ⟨_, rfl, hb⟩
set_option maxRecDepth 100000 in
set_option maxHeartbeats 4000000 in
theorem s_X12_isSeen_70 {l : Launch} {g : AG} {h : AH} {x0 : Nat} {x1 : Nat} {x2 : Int32} {x3 : Int32} {x4 : Int32}  {Q : Int32 → AH → Prop} (hb : (Is 194 x0 11) ∧ ( ((h.1 x0 51 ≤ x4 → ((Is 194 x1 9) ∧ ( C_X12_pressed l g h x0 x1 (fun r20 h19 => ( L_X12_isSeen_135 l g h19 x0 x1 x3 r20 0 0  Q))))) ∧ (¬ (h.1 x0 51 ≤ x4) → (((x3 = 0 → ((Is 194 x1 9) ∧ ( C_X12_pressed l g h x0 x1 (fun r25 h24 => ( L_X12_isSeen_135 l g h24 x0 x1 x3 r25 0 0  Q))))) ∧ (¬ (x3 = 0) → ((Is 194 (h.2.2 x0 23) 20) ∧ ( (Is 194 x1 9) ∧ ( (Is 194 (h.2.2 x1 8) 20) ∧ ( (vp_in ((6 * x2) + x4) (ax_s (h.2.2 x1 8)).2) ∧ ( (vp_in (h.1 (h.2.2 x1 8) ((6 * x2) + x4).toNatClampNeg) (ax_s (h.2.2 x0 23)).2) ∧ ( ∀ v31 : Int32, v31 = (h.1 (h.2.2 x0 23) (h.1 (h.2.2 x1 8) ((6 * x2) + x4).toNatClampNeg).toNatClampNeg) → ( (Is 194 (h.2.2 x0 54) 20) ∧ ( (vp_in x4 (ax_s (h.2.2 x0 54)).2) ∧ ( ((¬ v31 = h.1 (h.2.2 x0 54) x4.toNatClampNeg → (∀ v36 : Int32, v36 = x4 + (1) → ( L_X12_isSeen_70 l g h x0 x1 x2 0 v36  Q))) ∧ (v31 = h.1 (h.2.2 x0 54) x4.toNatClampNeg → (∀ v38 : Int32, v38 = x4 + (1) → ( L_X12_isSeen_70 l g h x0 x1 x2 1 v38  Q)))))))))))))))))))) : L_X12_isSeen_70 l g h x0 x1 x2 x3 x4  Q := by
  refine wp_iload 4 dX12_isSeen_70 rfl ?_
  obtain ⟨i15, hb⟩ := hb
  refine wp_aload_n 0 dX12_isSeen_72 rfl rfl ?_
  refine wp_getI dX12_isSeen_73 fl_X12_428 i15 ?_
  refine wp_icmp_ge (tgt := 122) dX12_isSeen_76 (by decide) (fun c16 => ?_) (fun c16 => ?_)
  · have hb := hb.1 c16
    refine wp_aload_n 0 dX12_isSeen_122 rfl rfl ?_
    obtain ⟨i17, hb⟩ := hb
    refine wp_aload_n 1 dX12_isSeen_123 rfl rfl ?_
    refine wp_callV (as := [.ref x1]) dX12_isSeen_124 cb_X12_pressed lk_X12_354 im_X12_pressed se_X12_pressed rfl (Nat.le_of_ble_eq_true rfl) ⟨by decide, by decide⟩ ⟨Nat.le_refl _, Nat.le_refl _, Nat.le_refl _⟩ i15 rfl (by decide) hb (fun r0 h19 hb => ?_)
    obtain ⟨r20, rfl, hb⟩ := hb
    refine wp_istore (lv2 := [(4, .int r20), (0, .ref x0), (1, .ref x1), (2, .int x2), (3, .int x3)]) dX12_isSeen_127 (by decide) rfl ?_
    refine wp_iconst (v := 0) dX12_isSeen_129 (by decide) ?_
    refine wp_istore (lv2 := [(5, .int 0), (4, .int r20), (0, .ref x0), (1, .ref x1), (2, .int x2), (3, .int x3)]) dX12_isSeen_130 (by decide) rfl ?_
    refine wp_iconst (v := 0) dX12_isSeen_132 (by decide) ?_
    refine wp_istore (lv2 := [(6, .int 0), (5, .int 0), (4, .int r20), (0, .ref x0), (1, .ref x1), (2, .int x2), (3, .int x3)]) dX12_isSeen_133 (by decide) rfl ?_
    exact wp_sub [3, 4, 6, 2, 1, 0] rfl hb
  · have hb := hb.2 c16
    refine wp_iload_n 3 dX12_isSeen_79 rfl rfl ?_
    refine wp_if_eq (tgt := 122) dX12_isSeen_80 (by decide) (fun c21 => ?_) (fun c21 => ?_)
    · have hb := hb.1 c21
      refine wp_aload_n 0 dX12_isSeen_122 rfl rfl ?_
      obtain ⟨i22, hb⟩ := hb
      refine wp_aload_n 1 dX12_isSeen_123 rfl rfl ?_
      refine wp_callV (as := [.ref x1]) dX12_isSeen_124 cb_X12_pressed lk_X12_354 im_X12_pressed se_X12_pressed rfl (Nat.le_of_ble_eq_true rfl) ⟨by decide, by decide⟩ ⟨Nat.le_refl _, Nat.le_refl _, Nat.le_refl _⟩ i15 rfl (by decide) hb (fun r0 h24 hb => ?_)
      obtain ⟨r25, rfl, hb⟩ := hb
      refine wp_istore (lv2 := [(4, .int r25), (0, .ref x0), (1, .ref x1), (2, .int x2), (3, .int x3)]) dX12_isSeen_127 (by decide) rfl ?_
      refine wp_iconst (v := 0) dX12_isSeen_129 (by decide) ?_
      refine wp_istore (lv2 := [(5, .int 0), (4, .int r25), (0, .ref x0), (1, .ref x1), (2, .int x2), (3, .int x3)]) dX12_isSeen_130 (by decide) rfl ?_
      refine wp_iconst (v := 0) dX12_isSeen_132 (by decide) ?_
      refine wp_istore (lv2 := [(6, .int 0), (5, .int 0), (4, .int r25), (0, .ref x0), (1, .ref x1), (2, .int x2), (3, .int x3)]) dX12_isSeen_133 (by decide) rfl ?_
      exact wp_sub [3, 4, 6, 2, 1, 0] rfl hb
    · have hb := hb.2 c21
      refine wp_aload_n 0 dX12_isSeen_83 rfl rfl ?_
      obtain ⟨i26, hb⟩ := hb
      refine wp_getR dX12_isSeen_84 fl_X12_59 i15 (i26.ne (by decide)) ?_
      obtain ⟨i27, hb⟩ := hb
      refine wp_aload_n 1 dX12_isSeen_87 rfl rfl ?_
      obtain ⟨i28, hb⟩ := hb
      refine wp_getR dX12_isSeen_88 fl_X12_257 i27 (i28.ne (by decide)) ?_
      refine wp_bipush (v := 6) dX12_isSeen_91 (by decide) ?_
      refine wp_iload_n 2 dX12_isSeen_93 rfl rfl ?_
      refine wp_imul dX12_isSeen_94 ?_
      refine wp_iload 4 dX12_isSeen_95 rfl ?_
      refine wp_iadd dX12_isSeen_97 ?_
      obtain ⟨b29, hb⟩ := hb
      refine wp_iaload dX12_isSeen_98 i28 b29 ?_
      obtain ⟨b30, hb⟩ := hb
      refine wp_iaload dX12_isSeen_99 i26 b30 ?_
      refine wp_topi (fun v31 e32 => ?_)
      have hb := hb v31 e32
      refine wp_aload_n 0 dX12_isSeen_100 rfl rfl ?_
      obtain ⟨i33, hb⟩ := hb
      refine wp_getR dX12_isSeen_101 fl_X12_125 i15 (i33.ne (by decide)) ?_
      refine wp_iload 4 dX12_isSeen_104 rfl ?_
      obtain ⟨b34, hb⟩ := hb
      refine wp_iaload dX12_isSeen_106 i33 b34 ?_
      refine wp_icmp_ne (tgt := 114) dX12_isSeen_107 (by decide) (fun c35 => ?_) (fun c35 => ?_)
      · have hb := hb.1 c35
        refine wp_iconst (v := 0) dX12_isSeen_114 (by decide) ?_
        refine wp_istore_n (lv2 := [(3, .int 0), (0, .ref x0), (1, .ref x1), (2, .int x2), (4, .int x4)]) dX12_isSeen_115 rfl (by decide) rfl ?_
        obtain ⟨v36, e37⟩ : ∃ y : Int32, y = x4 + (1) := ⟨_, rfl⟩
        have hb := hb v36 e37
        refine wp_iinc (v := v36) (lv2 := [(4, .int v36), (3, .int 0), (0, .ref x0), (1, .ref x1), (2, .int x2)]) 4 dX12_isSeen_116 rfl (by rw [e37]; rfl) (by decide) rfl ?_
        refine wp_goto (tgt := 70) dX12_isSeen_119 (by decide) ?_
        exact wp_sub [2, 3, 4, 1, 0] rfl hb
      · have hb := hb.2 c35
        refine wp_iconst (v := 1) dX12_isSeen_110 (by decide) ?_
        refine wp_goto (tgt := 115) dX12_isSeen_111 (by decide) ?_
        refine wp_istore_n (lv2 := [(3, .int 1), (0, .ref x0), (1, .ref x1), (2, .int x2), (4, .int x4)]) dX12_isSeen_115 rfl (by decide) rfl ?_
        obtain ⟨v38, e39⟩ : ∃ y : Int32, y = x4 + (1) := ⟨_, rfl⟩
        have hb := hb v38 e39
        refine wp_iinc (v := v38) (lv2 := [(4, .int v38), (3, .int 1), (0, .ref x0), (1, .ref x1), (2, .int x2)]) 4 dX12_isSeen_116 rfl (by rw [e39]; rfl) (by decide) rfl ?_
        refine wp_goto (tgt := 70) dX12_isSeen_119 (by decide) ?_
        exact wp_sub [2, 3, 4, 1, 0] rfl hb
set_option maxRecDepth 100000 in
set_option maxHeartbeats 4000000 in
theorem s_X12_isSeen_135 {l : Launch} {g : AG} {h : AH} {x0 : Nat} {x1 : Nat} {x3 : Int32} {x4 : Int32} {x5 : Int32} {x6 : Int32}  {Q : Int32 → AH → Prop} (hb : (Is 194 x1 9) ∧ ( ((h.1 x1 1 ≤ x6 → (L_X12_isSeen_199 l g h x0 x3 x5  Q)) ∧ (¬ (h.1 x1 1 ≤ x6) → (((x3 = 0 → (L_X12_isSeen_199 l g h x0 x3 x5  Q)) ∧ (¬ (x3 = 0) → (((¬ (jishr x4 x6) &&& 1 = 0 → (∀ v44 : Int32, v44 = x5 + (1) → ( (Is 194 x0 11) ∧ ( (Is 194 (h.2.2 x0 55) 21) ∧ ( (Is 194 (h.2.2 x1 4) 21) ∧ ( (vp_in x6 (ax_s (h.2.2 x1 4)).2) ∧ ( C_X12_find l g h (h.2.2 x0 55) 0 (h.1 x0 52) (h.2.1 (h.2.2 x1 4) x6.toNatClampNeg) (fun r52 h51 => ( ((r52 = (-1) → (∀ v54 : Int32, v54 = x6 + (1) → ( L_X12_isSeen_135 l g h51 x0 x1 0 x4 v44 v54  Q))) ∧ (¬ (r52 = (-1)) → (∀ v56 : Int32, v56 = x6 + (1) → ( L_X12_isSeen_135 l g h51 x0 x1 1 x4 v44 v56  Q))))))))))))) ∧ ((jishr x4 x6) &&& 1 = 0 → (∀ v58 : Int32, v58 = x6 + (1) → ( L_X12_isSeen_135 l g h x0 x1 x3 x4 x5 v58  Q)))))))))))) : L_X12_isSeen_135 l g h x0 x1 x3 x4 x5 x6  Q := by
  refine wp_iload 5 dX12_isSeen_135 rfl ?_
  obtain ⟨i40, hb⟩ := hb
  refine wp_aload_n 1 dX12_isSeen_137 rfl rfl ?_
  refine wp_getI dX12_isSeen_138 fl_X12_208 i40 ?_
  refine wp_icmp_ge (tgt := 199) dX12_isSeen_141 (by decide) (fun c41 => ?_) (fun c41 => ?_)
  · have hb := hb.1 c41
    exact wp_sub [0, 2, 4] rfl hb
  · have hb := hb.2 c41
    refine wp_iload_n 2 dX12_isSeen_144 rfl rfl ?_
    refine wp_if_eq (tgt := 199) dX12_isSeen_145 (by decide) (fun c42 => ?_) (fun c42 => ?_)
    · have hb := hb.1 c42
      exact wp_sub [0, 2, 4] rfl hb
    · have hb := hb.2 c42
      refine wp_iload 3 dX12_isSeen_148 rfl ?_
      refine wp_iload 5 dX12_isSeen_150 rfl ?_
      refine wp_ishr dX12_isSeen_152 ?_
      refine wp_iconst (v := 1) dX12_isSeen_153 (by decide) ?_
      refine wp_iand dX12_isSeen_154 ?_
      refine wp_if_ne (tgt := 161) dX12_isSeen_155 (by decide) (fun c43 => ?_) (fun c43 => ?_)
      · have hb := hb.1 c43
        obtain ⟨v44, e45⟩ : ∃ y : Int32, y = x5 + (1) := ⟨_, rfl⟩
        have hb := hb v44 e45
        refine wp_iinc (v := v44) (lv2 := [(5, .int v44), (0, .ref x0), (1, .ref x1), (3, .int x3), (4, .int x4), (6, .int x6)]) 4 dX12_isSeen_161 rfl (by rw [e45]; rfl) (by decide) rfl ?_
        obtain ⟨i46, hb⟩ := hb
        refine wp_aload_n 1 dX12_isSeen_164 rfl rfl ?_
        obtain ⟨i47, hb⟩ := hb
        refine wp_getR dX12_isSeen_165 fl_X12_128 i46 (i47.ne (by decide)) ?_
        refine wp_iconst (v := 0) dX12_isSeen_168 (by decide) ?_
        refine wp_aload_n 1 dX12_isSeen_169 rfl rfl ?_
        refine wp_getI dX12_isSeen_170 fl_X12_431 i46 ?_
        refine wp_aload_n 2 dX12_isSeen_173 rfl rfl ?_
        obtain ⟨i48, hb⟩ := hb
        refine wp_getR dX12_isSeen_174 fl_X12_264 i40 (i48.ne (by decide)) ?_
        refine wp_iload 5 dX12_isSeen_177 rfl ?_
        obtain ⟨b49, hb⟩ := hb
        refine wp_laload dX12_isSeen_179 i48 b49 ?_
        refine wp_callS (as := [.ref (h.2.2 x0 55), .int 0, .int (h.1 x0 52), .long (h.2.1 (h.2.2 x1 4) x6.toNatClampNeg)]) dX12_isSeen_180 cb_X12_find lk_X12_201 st_X12_find rfl (Nat.le_of_ble_eq_true rfl) ⟨by decide, by decide⟩ ⟨Nat.le_refl _, Nat.le_refl _, Nat.le_refl _⟩ hb (fun r0 h51 hb => ?_)
        obtain ⟨r52, rfl, hb⟩ := hb
        refine wp_iconst (v := (-1)) dX12_isSeen_183 (by decide) ?_
        refine wp_icmp_eq (tgt := 191) dX12_isSeen_184 (by decide) (fun c53 => ?_) (fun c53 => ?_)
        · have hb := hb.1 c53
          refine wp_iconst (v := 0) dX12_isSeen_191 (by decide) ?_
          refine wp_istore_n (lv2 := [(3, .int 0), (5, .int v44), (0, .ref x0), (1, .ref x1), (4, .int x4), (6, .int x6)]) dX12_isSeen_192 rfl (by decide) rfl ?_
          obtain ⟨v54, e55⟩ : ∃ y : Int32, y = x6 + (1) := ⟨_, rfl⟩
          have hb := hb v54 e55
          refine wp_iinc (v := v54) (lv2 := [(6, .int v54), (3, .int 0), (5, .int v44), (0, .ref x0), (1, .ref x1), (4, .int x4)]) 5 dX12_isSeen_193 rfl (by rw [e55]; rfl) (by decide) rfl ?_
          refine wp_goto (tgt := 135) dX12_isSeen_196 (by decide) ?_
          exact wp_sub [3, 4, 1, 5, 2, 0] rfl hb
        · have hb := hb.2 c53
          refine wp_iconst (v := 1) dX12_isSeen_187 (by decide) ?_
          refine wp_goto (tgt := 192) dX12_isSeen_188 (by decide) ?_
          refine wp_istore_n (lv2 := [(3, .int 1), (5, .int v44), (0, .ref x0), (1, .ref x1), (4, .int x4), (6, .int x6)]) dX12_isSeen_192 rfl (by decide) rfl ?_
          obtain ⟨v56, e57⟩ : ∃ y : Int32, y = x6 + (1) := ⟨_, rfl⟩
          have hb := hb v56 e57
          refine wp_iinc (v := v56) (lv2 := [(6, .int v56), (3, .int 1), (5, .int v44), (0, .ref x0), (1, .ref x1), (4, .int x4)]) 5 dX12_isSeen_193 rfl (by rw [e57]; rfl) (by decide) rfl ?_
          refine wp_goto (tgt := 135) dX12_isSeen_196 (by decide) ?_
          exact wp_sub [3, 4, 1, 5, 2, 0] rfl hb
      · have hb := hb.2 c43
        refine wp_goto (tgt := 193) dX12_isSeen_158 (by decide) ?_
        obtain ⟨v58, e59⟩ : ∃ y : Int32, y = x6 + (1) := ⟨_, rfl⟩
        have hb := hb v58 e59
        refine wp_iinc (v := v58) (lv2 := [(6, .int v58), (0, .ref x0), (1, .ref x1), (3, .int x3), (4, .int x4), (5, .int x5)]) 5 dX12_isSeen_193 rfl (by rw [e59]; rfl) (by decide) rfl ?_
        refine wp_goto (tgt := 135) dX12_isSeen_196 (by decide) ?_
        exact wp_sub [1, 2, 3, 4, 5, 0] rfl hb
set_option maxRecDepth 100000 in
set_option maxHeartbeats 4000000 in
theorem s_X12_isSeen_199 {l : Launch} {g : AG} {h : AH} {x0 : Nat} {x3 : Int32} {x5 : Int32}  {Q : Int32 → AH → Prop} (hb : ((x3 = 0 → (Q 0 h)) ∧ (¬ (x3 = 0) → ((Is 194 x0 11) ∧ ( ((¬ x5 = h.1 x0 52 → (Q 0 h)) ∧ (x5 = h.1 x0 52 → (Q 1 h)))))))) : L_X12_isSeen_199 l g h x0 x3 x5  Q := by
  refine wp_iload_n 1 dX12_isSeen_199 rfl rfl ?_
  refine wp_if_eq (tgt := 216) dX12_isSeen_200 (by decide) (fun c60 => ?_) (fun c60 => ?_)
  · have hb := hb.1 c60
    refine wp_iconst (v := 0) dX12_isSeen_216 (by decide) ?_
    exact wp_zret rfl dX12_isSeen_217 (Or.inl rfl) ⟨_, rfl, hb⟩
  · have hb := hb.2 c60
    refine wp_iload 2 dX12_isSeen_203 rfl ?_
    obtain ⟨i61, hb⟩ := hb
    refine wp_aload_n 0 dX12_isSeen_205 rfl rfl ?_
    refine wp_getI dX12_isSeen_206 fl_X12_431 i61 ?_
    refine wp_icmp_ne (tgt := 216) dX12_isSeen_209 (by decide) (fun c62 => ?_) (fun c62 => ?_)
    · have hb := hb.1 c62
      refine wp_iconst (v := 0) dX12_isSeen_216 (by decide) ?_
      exact wp_zret rfl dX12_isSeen_217 (Or.inl rfl) ⟨_, rfl, hb⟩
    · have hb := hb.2 c62
      refine wp_iconst (v := 1) dX12_isSeen_212 (by decide) ?_
      refine wp_goto (tgt := 217) dX12_isSeen_213 (by decide) ?_
      exact wp_zret rfl dX12_isSeen_217 (Or.inr rfl) ⟨_, rfl, hb⟩
theorem c_X12_isSeen {l : Launch} {g : AG} {h : AH} {x0 : Nat} {x1 : Nat}  {Q : Int32 → AH → Prop} (hb : L_X12_isSeen_0 l g h x0 x1  Q) : C_X12_isSeen l g h x0 x1  Q := ax_met rfl (Nat.le_of_ble_eq_true rfl) hb
