def C_X12_isLike (l : Launch) (g : AG) (h : AH) (x0 : Nat) (x1 : Int32) (x2 : Int32)  (Q : Int32 → AH → Prop) : Prop := Ct l g mX12_isLike 0 0 194 194 h [.ref x0, .int x1, .int x2] (ax_QI Q)
def L_X12_isLike_0 (l : Launch) (g : AG) (h : AH) (x0 : Nat) (x1 : Int32) (x2 : Int32)  (Q : Int32 → AH → Prop) : Prop := Wp l g mX12_isLike 0 0 194 194 194 0 [(0, .ref x0), (1, .int x1), (2, .int x2)] [] h (FM g 194 194 (ax_QI Q))
def L_X12_isLike_55 (l : Launch) (g : AG) (h : AH) (x0 : Nat) (x1 : Int32) (x2 : Int32) (x3 : Int32) (x4 : Int32)  (Q : Int32 → AH → Prop) : Prop := Wp l g mX12_isLike 0 0 194 194 194 55 [(0, .ref x0), (1, .int x1), (2, .int x2), (3, .int x3), (4, .int x4)] [] h (FM g 194 194 (ax_QI Q))
set_option maxRecDepth 100000 in
set_option maxHeartbeats 4000000 in
theorem s_X12_isLike_0 {l : Launch} {g : AG} {h : AH} {x0 : Nat} {x1 : Int32} {x2 : Int32}  {Q : Int32 → AH → Prop} (hb : (Is 194 x0 11) ∧ ( (Is 194 (h.2.2 x0 32) 20) ∧ ( (vp_in x1 (ax_s (h.2.2 x0 32)).2) ∧ ( (Is 194 (h.2.2 x0 32) 20) ∧ ( (vp_in x2 (ax_s (h.2.2 x0 32)).2) ∧ ( ((¬ h.1 (h.2.2 x0 32) x1.toNatClampNeg = h.1 (h.2.2 x0 32) x2.toNatClampNeg → (L_X12_isLike_55 l g h x0 x1 x2 0 0  Q)) ∧ (h.1 (h.2.2 x0 32) x1.toNatClampNeg = h.1 (h.2.2 x0 32) x2.toNatClampNeg → ((Is 194 (h.2.2 x0 37) 21) ∧ ( (vp_in x1 (ax_s (h.2.2 x0 37)).2) ∧ ( (Is 194 (h.2.2 x0 37) 21) ∧ ( (vp_in x2 (ax_s (h.2.2 x0 37)).2) ∧ ( ((¬ lg_cmp (h.2.1 (h.2.2 x0 37) x1.toNatClampNeg) (h.2.1 (h.2.2 x0 37) x2.toNatClampNeg) = 0 → (L_X12_isLike_55 l g h x0 x1 x2 0 0  Q)) ∧ (lg_cmp (h.2.1 (h.2.2 x0 37) x1.toNatClampNeg) (h.2.1 (h.2.2 x0 37) x2.toNatClampNeg) = 0 → ((Is 194 (h.2.2 x0 31) 20) ∧ ( (vp_in x1 (ax_s (h.2.2 x0 31)).2) ∧ ( (Is 194 (h.2.2 x0 31) 20) ∧ ( (vp_in x2 (ax_s (h.2.2 x0 31)).2) ∧ ( ((¬ h.1 (h.2.2 x0 31) x1.toNatClampNeg = h.1 (h.2.2 x0 31) x2.toNatClampNeg → (L_X12_isLike_55 l g h x0 x1 x2 0 0  Q)) ∧ (h.1 (h.2.2 x0 31) x1.toNatClampNeg = h.1 (h.2.2 x0 31) x2.toNatClampNeg → (L_X12_isLike_55 l g h x0 x1 x2 1 0  Q))))))))))))))))))))))) : L_X12_isLike_0 l g h x0 x1 x2  Q := by
  obtain ⟨i1, hb⟩ := hb
  refine wp_aload_n 0 dX12_isLike_0 rfl rfl ?_
  obtain ⟨i2, hb⟩ := hb
  refine wp_getR dX12_isLike_1 fl_X12_83 i1 (i2.ne (by decide)) ?_
  refine wp_iload_n 1 dX12_isLike_4 rfl rfl ?_
  obtain ⟨b3, hb⟩ := hb
  refine wp_iaload dX12_isLike_5 i2 b3 ?_
  refine wp_aload_n 0 dX12_isLike_6 rfl rfl ?_
  obtain ⟨i4, hb⟩ := hb
  refine wp_getR dX12_isLike_7 fl_X12_83 i1 (i4.ne (by decide)) ?_
  refine wp_iload_n 2 dX12_isLike_10 rfl rfl ?_
  obtain ⟨b5, hb⟩ := hb
  refine wp_iaload dX12_isLike_11 i4 b5 ?_
  refine wp_icmp_ne (tgt := 50) dX12_isLike_12 (by decide) (fun c6 => ?_) (fun c6 => ?_)
  · have hb := hb.1 c6
    refine wp_iconst (v := 0) dX12_isLike_50 (by decide) ?_
    refine wp_istore_n (lv2 := [(3, .int 0), (0, .ref x0), (1, .int x1), (2, .int x2)]) dX12_isLike_51 rfl (by decide) rfl ?_
    refine wp_iconst (v := 0) dX12_isLike_52 (by decide) ?_
    refine wp_istore (lv2 := [(4, .int 0), (3, .int 0), (0, .ref x0), (1, .int x1), (2, .int x2)]) dX12_isLike_53 (by decide) rfl ?_
    exact wp_sub [2, 3, 4, 1, 0] rfl hb
  · have hb := hb.2 c6
    refine wp_aload_n 0 dX12_isLike_15 rfl rfl ?_
    obtain ⟨i7, hb⟩ := hb
    refine wp_getR dX12_isLike_16 fl_X12_95 i1 (i7.ne (by decide)) ?_
    refine wp_iload_n 1 dX12_isLike_19 rfl rfl ?_
    obtain ⟨b8, hb⟩ := hb
    refine wp_laload dX12_isLike_20 i7 b8 ?_
    refine wp_aload_n 0 dX12_isLike_21 rfl rfl ?_
    obtain ⟨i9, hb⟩ := hb
    refine wp_getR dX12_isLike_22 fl_X12_95 i1 (i9.ne (by decide)) ?_
    refine wp_iload_n 2 dX12_isLike_25 rfl rfl ?_
    obtain ⟨b10, hb⟩ := hb
    refine wp_laload dX12_isLike_26 i9 b10 ?_
    refine wp_lcmp dX12_isLike_27 ?_
    refine wp_if_ne (tgt := 50) dX12_isLike_28 (by decide) (fun c11 => ?_) (fun c11 => ?_)
    · have hb := hb.1 c11
      refine wp_iconst (v := 0) dX12_isLike_50 (by decide) ?_
      refine wp_istore_n (lv2 := [(3, .int 0), (0, .ref x0), (1, .int x1), (2, .int x2)]) dX12_isLike_51 rfl (by decide) rfl ?_
      refine wp_iconst (v := 0) dX12_isLike_52 (by decide) ?_
      refine wp_istore (lv2 := [(4, .int 0), (3, .int 0), (0, .ref x0), (1, .int x1), (2, .int x2)]) dX12_isLike_53 (by decide) rfl ?_
      exact wp_sub [2, 3, 4, 1, 0] rfl hb
    · have hb := hb.2 c11
      refine wp_aload_n 0 dX12_isLike_31 rfl rfl ?_
      obtain ⟨i12, hb⟩ := hb
      refine wp_getR dX12_isLike_32 fl_X12_80 i1 (i12.ne (by decide)) ?_
      refine wp_iload_n 1 dX12_isLike_35 rfl rfl ?_
      obtain ⟨b13, hb⟩ := hb
      refine wp_iaload dX12_isLike_36 i12 b13 ?_
      refine wp_aload_n 0 dX12_isLike_37 rfl rfl ?_
      obtain ⟨i14, hb⟩ := hb
      refine wp_getR dX12_isLike_38 fl_X12_80 i1 (i14.ne (by decide)) ?_
      refine wp_iload_n 2 dX12_isLike_41 rfl rfl ?_
      obtain ⟨b15, hb⟩ := hb
      refine wp_iaload dX12_isLike_42 i14 b15 ?_
      refine wp_icmp_ne (tgt := 50) dX12_isLike_43 (by decide) (fun c16 => ?_) (fun c16 => ?_)
      · have hb := hb.1 c16
        refine wp_iconst (v := 0) dX12_isLike_50 (by decide) ?_
        refine wp_istore_n (lv2 := [(3, .int 0), (0, .ref x0), (1, .int x1), (2, .int x2)]) dX12_isLike_51 rfl (by decide) rfl ?_
        refine wp_iconst (v := 0) dX12_isLike_52 (by decide) ?_
        refine wp_istore (lv2 := [(4, .int 0), (3, .int 0), (0, .ref x0), (1, .int x1), (2, .int x2)]) dX12_isLike_53 (by decide) rfl ?_
        exact wp_sub [2, 3, 4, 1, 0] rfl hb
      · have hb := hb.2 c16
        refine wp_iconst (v := 1) dX12_isLike_46 (by decide) ?_
        refine wp_goto (tgt := 51) dX12_isLike_47 (by decide) ?_
        refine wp_istore_n (lv2 := [(3, .int 1), (0, .ref x0), (1, .int x1), (2, .int x2)]) dX12_isLike_51 rfl (by decide) rfl ?_
        refine wp_iconst (v := 0) dX12_isLike_52 (by decide) ?_
        refine wp_istore (lv2 := [(4, .int 0), (3, .int 1), (0, .ref x0), (1, .int x1), (2, .int x2)]) dX12_isLike_53 (by decide) rfl ?_
        exact wp_sub [2, 3, 4, 1, 0] rfl hb
set_option maxRecDepth 100000 in
set_option maxHeartbeats 4000000 in
theorem s_X12_isLike_55 {l : Launch} {g : AG} {h : AH} {x0 : Nat} {x1 : Int32} {x2 : Int32} {x3 : Int32} {x4 : Int32}  {Q : Int32 → AH → Prop} (hb : ((27 ≤ x4 → ((x3 = 0 ∨ x3 = 1) ∧ ( Q x3 h))) ∧ (¬ (27 ≤ x4) → (((x3 = 0 → ((x3 = 0 ∨ x3 = 1) ∧ ( Q x3 h))) ∧ (¬ (x3 = 0) → ((Is 194 x0 11) ∧ ( (Is 194 (h.2.2 x0 31) 20) ∧ ( (vp_in x1 (ax_s (h.2.2 x0 31)).2) ∧ ( ∀ v24 : Int32, v24 = ((jishr (h.1 (h.2.2 x0 31) x1.toNatClampNeg) x4) &&& 1) → ( ((v24 = 0 → (∀ v27 : Int32, v27 = x4 + (1) → ( L_X12_isLike_55 l g h x0 x1 x2 1 v27  Q))) ∧ (¬ (v24 = 0) → ((Is 194 (h.2.2 x0 32) 20) ∧ ( (Is 194 (h.2.2 x0 35) 20) ∧ ( (vp_in ((27 * x1) + x4) (ax_s (h.2.2 x0 35)).2) ∧ ( (vp_in (h.1 (h.2.2 x0 35) ((27 * x1) + x4).toNatClampNeg) (ax_s (h.2.2 x0 32)).2) ∧ ( ∀ v33 : Int32, v33 = (h.1 (h.2.2 x0 32) (h.1 (h.2.2 x0 35) ((27 * x1) + x4).toNatClampNeg).toNatClampNeg) → ( (Is 194 (h.2.2 x0 32) 20) ∧ ( (Is 194 (h.2.2 x0 35) 20) ∧ ( (vp_in ((27 * x2) + x4) (ax_s (h.2.2 x0 35)).2) ∧ ( (vp_in (h.1 (h.2.2 x0 35) ((27 * x2) + x4).toNatClampNeg) (ax_s (h.2.2 x0 32)).2) ∧ ( ∀ v39 : Int32, v39 = (h.1 (h.2.2 x0 32) (h.1 (h.2.2 x0 35) ((27 * x2) + x4).toNatClampNeg).toNatClampNeg) → ( ((¬ v33 = v39 → (∀ v42 : Int32, v42 = x4 + (1) → ( L_X12_isLike_55 l g h x0 x1 x2 0 v42  Q))) ∧ (v33 = v39 → (∀ v44 : Int32, v44 = x4 + (1) → ( L_X12_isLike_55 l g h x0 x1 x2 1 v44  Q)))))))))))))))))))))))))))) : L_X12_isLike_55 l g h x0 x1 x2 x3 x4  Q := by
  refine wp_iload 4 dX12_isLike_55 rfl ?_
  refine wp_bipush (v := 27) dX12_isLike_57 (by decide) ?_
  refine wp_icmp_ge (tgt := 129) dX12_isLike_59 (by decide) (fun c17 => ?_) (fun c17 => ?_)
  · have hb := hb.1 c17
    refine wp_iload_n 3 dX12_isLike_129 rfl rfl ?_
    obtain ⟨q18, hb⟩ := hb
    exact wp_zret rfl dX12_isLike_130 q18 ⟨_, rfl, hb⟩
  · have hb := hb.2 c17
    refine wp_iload_n 3 dX12_isLike_62 rfl rfl ?_
    refine wp_if_eq (tgt := 129) dX12_isLike_63 (by decide) (fun c19 => ?_) (fun c19 => ?_)
    · have hb := hb.1 c19
      refine wp_iload_n 3 dX12_isLike_129 rfl rfl ?_
      obtain ⟨q20, hb⟩ := hb
      exact wp_zret rfl dX12_isLike_130 q20 ⟨_, rfl, hb⟩
    · have hb := hb.2 c19
      obtain ⟨i21, hb⟩ := hb
      refine wp_aload_n 0 dX12_isLike_66 rfl rfl ?_
      obtain ⟨i22, hb⟩ := hb
      refine wp_getR dX12_isLike_67 fl_X12_80 i21 (i22.ne (by decide)) ?_
      refine wp_iload_n 1 dX12_isLike_70 rfl rfl ?_
      obtain ⟨b23, hb⟩ := hb
      refine wp_iaload dX12_isLike_71 i22 b23 ?_
      refine wp_iload 4 dX12_isLike_72 rfl ?_
      refine wp_ishr dX12_isLike_74 ?_
      refine wp_iconst (v := 1) dX12_isLike_75 (by decide) ?_
      refine wp_iand dX12_isLike_76 ?_
      refine wp_topi (fun v24 e25 => ?_)
      have hb := hb v24 e25
      refine wp_if_eq (tgt := 117) dX12_isLike_77 (by decide) (fun c26 => ?_) (fun c26 => ?_)
      · have hb := hb.1 c26
        refine wp_iconst (v := 1) dX12_isLike_117 (by decide) ?_
        refine wp_goto (tgt := 122) dX12_isLike_118 (by decide) ?_
        refine wp_istore_n (lv2 := [(3, .int 1), (0, .ref x0), (1, .int x1), (2, .int x2), (4, .int x4)]) dX12_isLike_122 rfl (by decide) rfl ?_
        obtain ⟨v27, e28⟩ : ∃ y : Int32, y = x4 + (1) := ⟨_, rfl⟩
        have hb := hb v27 e28
        refine wp_iinc (v := v27) (lv2 := [(4, .int v27), (3, .int 1), (0, .ref x0), (1, .int x1), (2, .int x2)]) 4 dX12_isLike_123 rfl (by rw [e28]; rfl) (by decide) rfl ?_
        refine wp_goto (tgt := 55) dX12_isLike_126 (by decide) ?_
        exact wp_sub [2, 3, 4, 1, 0] rfl hb
      · have hb := hb.2 c26
        refine wp_aload_n 0 dX12_isLike_80 rfl rfl ?_
        obtain ⟨i29, hb⟩ := hb
        refine wp_getR dX12_isLike_81 fl_X12_83 i21 (i29.ne (by decide)) ?_
        refine wp_aload_n 0 dX12_isLike_84 rfl rfl ?_
        obtain ⟨i30, hb⟩ := hb
        refine wp_getR dX12_isLike_85 fl_X12_92 i21 (i30.ne (by decide)) ?_
        refine wp_bipush (v := 27) dX12_isLike_88 (by decide) ?_
        refine wp_iload_n 1 dX12_isLike_90 rfl rfl ?_
        refine wp_imul dX12_isLike_91 ?_
        refine wp_iload 4 dX12_isLike_92 rfl ?_
        refine wp_iadd dX12_isLike_94 ?_
        obtain ⟨b31, hb⟩ := hb
        refine wp_iaload dX12_isLike_95 i30 b31 ?_
        obtain ⟨b32, hb⟩ := hb
        refine wp_iaload dX12_isLike_96 i29 b32 ?_
        refine wp_topi (fun v33 e34 => ?_)
        have hb := hb v33 e34
        refine wp_aload_n 0 dX12_isLike_97 rfl rfl ?_
        obtain ⟨i35, hb⟩ := hb
        refine wp_getR dX12_isLike_98 fl_X12_83 i21 (i35.ne (by decide)) ?_
        refine wp_aload_n 0 dX12_isLike_101 rfl rfl ?_
        obtain ⟨i36, hb⟩ := hb
        refine wp_getR dX12_isLike_102 fl_X12_92 i21 (i36.ne (by decide)) ?_
        refine wp_bipush (v := 27) dX12_isLike_105 (by decide) ?_
        refine wp_iload_n 2 dX12_isLike_107 rfl rfl ?_
        refine wp_imul dX12_isLike_108 ?_
        refine wp_iload 4 dX12_isLike_109 rfl ?_
        refine wp_iadd dX12_isLike_111 ?_
        obtain ⟨b37, hb⟩ := hb
        refine wp_iaload dX12_isLike_112 i36 b37 ?_
        obtain ⟨b38, hb⟩ := hb
        refine wp_iaload dX12_isLike_113 i35 b38 ?_
        refine wp_topi (fun v39 e40 => ?_)
        have hb := hb v39 e40
        refine wp_icmp_ne (tgt := 121) dX12_isLike_114 (by decide) (fun c41 => ?_) (fun c41 => ?_)
        · have hb := hb.1 c41
          refine wp_iconst (v := 0) dX12_isLike_121 (by decide) ?_
          refine wp_istore_n (lv2 := [(3, .int 0), (0, .ref x0), (1, .int x1), (2, .int x2), (4, .int x4)]) dX12_isLike_122 rfl (by decide) rfl ?_
          obtain ⟨v42, e43⟩ : ∃ y : Int32, y = x4 + (1) := ⟨_, rfl⟩
          have hb := hb v42 e43
          refine wp_iinc (v := v42) (lv2 := [(4, .int v42), (3, .int 0), (0, .ref x0), (1, .int x1), (2, .int x2)]) 4 dX12_isLike_123 rfl (by rw [e43]; rfl) (by decide) rfl ?_
          refine wp_goto (tgt := 55) dX12_isLike_126 (by decide) ?_
          exact wp_sub [2, 3, 4, 1, 0] rfl hb
        · have hb := hb.2 c41
          refine wp_iconst (v := 1) dX12_isLike_117 (by decide) ?_
          refine wp_goto (tgt := 122) dX12_isLike_118 (by decide) ?_
          refine wp_istore_n (lv2 := [(3, .int 1), (0, .ref x0), (1, .int x1), (2, .int x2), (4, .int x4)]) dX12_isLike_122 rfl (by decide) rfl ?_
          obtain ⟨v44, e45⟩ : ∃ y : Int32, y = x4 + (1) := ⟨_, rfl⟩
          have hb := hb v44 e45
          refine wp_iinc (v := v44) (lv2 := [(4, .int v44), (3, .int 1), (0, .ref x0), (1, .int x1), (2, .int x2)]) 4 dX12_isLike_123 rfl (by rw [e45]; rfl) (by decide) rfl ?_
          refine wp_goto (tgt := 55) dX12_isLike_126 (by decide) ?_
          exact wp_sub [2, 3, 4, 1, 0] rfl hb
theorem c_X12_isLike {l : Launch} {g : AG} {h : AH} {x0 : Nat} {x1 : Int32} {x2 : Int32}  {Q : Int32 → AH → Prop} (hb : L_X12_isLike_0 l g h x0 x1 x2  Q) : C_X12_isLike l g h x0 x1 x2  Q := ax_met rfl (Nat.le_of_ble_eq_true rfl) hb
