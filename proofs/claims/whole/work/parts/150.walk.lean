def C_X12_pressed (l : Launch) (g : AG) (h : AH) (x0 : Nat) (x1 : Nat)  (Q : Int32 → AH → Prop) : Prop := Ct l g mX12_pressed 0 0 194 194 h [.ref x0, .ref x1] (ax_QI Q)
def L_X12_pressed_0 (l : Launch) (g : AG) (h : AH) (x0 : Nat) (x1 : Nat)  (Q : Int32 → AH → Prop) : Prop := Wp l g mX12_pressed 0 0 194 194 194 0 [(0, .ref x0), (1, .ref x1)] [] h (FM g 194 194 (ax_QI Q))
def L_X12_pressed_13 (l : Launch) (g : AG) (h : AH) (x0 : Nat) (x1 : Nat) (x2 : Int32) (x3 : Int32)  (Q : Int32 → AH → Prop) : Prop := Wp l g mX12_pressed 0 0 194 194 194 13 [(0, .ref x0), (1, .ref x1), (2, .int x2), (3, .int x3)] [] h (FM g 194 194 (ax_QI Q))
def L_X12_pressed_53 (l : Launch) (g : AG) (h : AH) (x0 : Nat) (x1 : Nat) (x2 : Int32) (x3 : Int32) (x4 : Int32) (x5 : Int32)  (Q : Int32 → AH → Prop) : Prop := Wp l g mX12_pressed 0 0 194 194 194 53 [(0, .ref x0), (1, .ref x1), (2, .int x2), (3, .int x3), (4, .int x4), (5, .int x5)] [] h (FM g 194 194 (ax_QI Q))
set_option maxRecDepth 100000 in
set_option maxHeartbeats 4000000 in
theorem s_X12_pressed_0 {l : Launch} {g : AG} {h : AH} {x0 : Nat} {x1 : Nat}  {Q : Int32 → AH → Prop} (hb : (Is 194 x0 11) ∧ ( ((h.1 x0 19 ≤ 0 → (L_X12_pressed_13 l g h x0 x1 0 0  Q)) ∧ (¬ (h.1 x0 19 ≤ 0) → (Q 0 h))))) : L_X12_pressed_0 l g h x0 x1  Q := by
  obtain ⟨i1, hb⟩ := hb
  refine wp_aload_n 0 dX12_pressed_0 rfl rfl ?_
  refine wp_getI dX12_pressed_1 fl_X12_343 i1 ?_
  refine wp_if_le (tgt := 9) dX12_pressed_4 (by decide) (fun c2 => ?_) (fun c2 => ?_)
  · have hb := hb.1 c2
    refine wp_iconst (v := 0) dX12_pressed_9 (by decide) ?_
    refine wp_istore_n (lv2 := [(2, .int 0), (0, .ref x0), (1, .ref x1)]) dX12_pressed_10 rfl (by decide) rfl ?_
    refine wp_iconst (v := 0) dX12_pressed_11 (by decide) ?_
    refine wp_istore_n (lv2 := [(3, .int 0), (2, .int 0), (0, .ref x0), (1, .ref x1)]) dX12_pressed_12 rfl (by decide) rfl ?_
    exact wp_sub [2, 3, 1, 0] rfl hb
  · have hb := hb.2 c2
    refine wp_iconst (v := 0) dX12_pressed_7 (by decide) ?_
    exact wp_iret rfl dX12_pressed_8 ⟨_, rfl, hb⟩
set_option maxRecDepth 100000 in
set_option maxHeartbeats 4000000 in
theorem s_X12_pressed_13 {l : Launch} {g : AG} {h : AH} {x0 : Nat} {x1 : Nat} {x2 : Int32} {x3 : Int32}  {Q : Int32 → AH → Prop} (hb : (Is 194 x1 9) ∧ ( ((h.1 x1 1 ≤ x3 → (Q x2 h)) ∧ (¬ (h.1 x1 1 ≤ x3) → ((Is 194 (h.2.2 x1 17) 20) ∧ ( (vp_in x3 (ax_s (h.2.2 x1 17)).2) ∧ ( (Is 194 x0 11) ∧ ( (Is 194 (h.2.2 x0 21) 20) ∧ ( (vp_in ((h.1 x0 20) - 1) (ax_s (h.2.2 x0 21)).2) ∧ ( ∀ v10 : Int32, v10 = (h.1 (h.2.2 x0 21) ((h.1 x0 20) - 1).toNatClampNeg) → ( ((¬ h.1 (h.2.2 x1 17) x3.toNatClampNeg = v10 → (∀ v13 : Int32, v13 = (3 * x3) → ( L_X12_pressed_53 l g h x0 x1 x2 x3 0 v13  Q))) ∧ (h.1 (h.2.2 x1 17) x3.toNatClampNeg = v10 → (∀ v15 : Int32, v15 = (3 * x3) → ( L_X12_pressed_53 l g h x0 x1 x2 x3 1 v15  Q))))))))))))))) : L_X12_pressed_13 l g h x0 x1 x2 x3  Q := by
  refine wp_iload_n 3 dX12_pressed_13 rfl rfl ?_
  obtain ⟨i3, hb⟩ := hb
  refine wp_aload_n 1 dX12_pressed_14 rfl rfl ?_
  refine wp_getI dX12_pressed_15 fl_X12_208 i3 ?_
  refine wp_icmp_ge (tgt := 181) dX12_pressed_18 (by decide) (fun c4 => ?_) (fun c4 => ?_)
  · have hb := hb.1 c4
    refine wp_iload_n 2 dX12_pressed_181 rfl rfl ?_
    exact wp_iret rfl dX12_pressed_182 ⟨_, rfl, hb⟩
  · have hb := hb.2 c4
    refine wp_aload_n 1 dX12_pressed_21 rfl rfl ?_
    obtain ⟨i5, hb⟩ := hb
    refine wp_getR dX12_pressed_22 fl_X12_267 i3 (i5.ne (by decide)) ?_
    refine wp_iload_n 3 dX12_pressed_25 rfl rfl ?_
    obtain ⟨b6, hb⟩ := hb
    refine wp_iaload dX12_pressed_26 i5 b6 ?_
    obtain ⟨i7, hb⟩ := hb
    refine wp_aload_n 0 dX12_pressed_27 rfl rfl ?_
    obtain ⟨i8, hb⟩ := hb
    refine wp_getR dX12_pressed_28 fl_X12_52 i7 (i8.ne (by decide)) ?_
    refine wp_aload_n 0 dX12_pressed_31 rfl rfl ?_
    refine wp_getI dX12_pressed_32 fl_X12_346 i7 ?_
    refine wp_iconst (v := 1) dX12_pressed_35 (by decide) ?_
    refine wp_isub dX12_pressed_36 ?_
    obtain ⟨b9, hb⟩ := hb
    refine wp_iaload dX12_pressed_37 i8 b9 ?_
    refine wp_topi (fun v10 e11 => ?_)
    have hb := hb v10 e11
    refine wp_icmp_ne (tgt := 45) dX12_pressed_38 (by decide) (fun c12 => ?_) (fun c12 => ?_)
    · have hb := hb.1 c12
      refine wp_iconst (v := 0) dX12_pressed_45 (by decide) ?_
      refine wp_istore (lv2 := [(4, .int 0), (0, .ref x0), (1, .ref x1), (2, .int x2), (3, .int x3)]) dX12_pressed_46 (by decide) rfl ?_
      refine wp_iconst (v := 3) dX12_pressed_48 (by decide) ?_
      refine wp_iload_n 4 dX12_pressed_49 rfl rfl ?_
      refine wp_imul dX12_pressed_50 ?_
      refine wp_topi (fun v13 e14 => ?_)
      have hb := hb v13 e14
      refine wp_istore (lv2 := [(5, .int v13), (4, .int 0), (0, .ref x0), (1, .ref x1), (2, .int x2), (3, .int x3)]) dX12_pressed_51 (by decide) rfl ?_
      exact wp_sub [2, 3, 4, 5, 1, 0] rfl hb
    · have hb := hb.2 c12
      refine wp_iconst (v := 1) dX12_pressed_41 (by decide) ?_
      refine wp_goto (tgt := 46) dX12_pressed_42 (by decide) ?_
      refine wp_istore (lv2 := [(4, .int 1), (0, .ref x0), (1, .ref x1), (2, .int x2), (3, .int x3)]) dX12_pressed_46 (by decide) rfl ?_
      refine wp_iconst (v := 3) dX12_pressed_48 (by decide) ?_
      refine wp_iload_n 4 dX12_pressed_49 rfl rfl ?_
      refine wp_imul dX12_pressed_50 ?_
      refine wp_topi (fun v15 e16 => ?_)
      have hb := hb v15 e16
      refine wp_istore (lv2 := [(5, .int v15), (4, .int 1), (0, .ref x0), (1, .ref x1), (2, .int x2), (3, .int x3)]) dX12_pressed_51 (by decide) rfl ?_
      exact wp_sub [2, 3, 4, 5, 1, 0] rfl hb
set_option maxRecDepth 100000 in
set_option maxHeartbeats 4000000 in
theorem s_X12_pressed_53 {l : Launch} {g : AG} {h : AH} {x0 : Nat} {x1 : Nat} {x2 : Int32} {x3 : Int32} {x4 : Int32} {x5 : Int32}  {Q : Int32 → AH → Prop} (hb : (Is 194 x1 9) ∧ ( (Is 194 (h.2.2 x1 18) 20) ∧ ( (vp_in x3 (ax_s (h.2.2 x1 18)).2) ∧ ( (((3 * x3) + (h.1 (h.2.2 x1 18) x3.toNatClampNeg) ≤ x5 → (((x4 = 0 → (∀ v22 : Int32, v22 = (x2 ||| 0) → ( ∀ v24 : Int32, v24 = x3 + (1) → ( L_X12_pressed_13 l g h x0 x1 v22 v24  Q)))) ∧ (¬ (x4 = 0) → (∀ v26 : Int32, v26 = (x2 ||| (jishl 1 x3)) → ( ∀ v28 : Int32, v28 = x3 + (1) → ( L_X12_pressed_13 l g h x0 x1 v26 v28  Q))))))) ∧ (¬ ((3 * x3) + (h.1 (h.2.2 x1 18) x3.toNatClampNeg) ≤ x5) → ((Is 194 x0 11) ∧ ( (Is 194 (h.2.2 x0 23) 20) ∧ ( (Is 194 (h.2.2 x1 19) 20) ∧ ( (vp_in x5 (ax_s (h.2.2 x1 19)).2) ∧ ( (vp_in (h.1 (h.2.2 x1 19) x5.toNatClampNeg) (ax_s (h.2.2 x0 23)).2) ∧ ( ∀ v35 : Int32, v35 = (h.1 (h.2.2 x0 23) (h.1 (h.2.2 x1 19) x5.toNatClampNeg).toNatClampNeg) → ( (Is 194 (h.2.2 x1 21) 20) ∧ ( (vp_in x5 (ax_s (h.2.2 x1 21)).2) ∧ ( ∀ v39 : Int32, v39 = (h.1 (h.2.2 x1 21) x5.toNatClampNeg) → ( ((x4 = 0 → (∀ v42 : Int32, v42 = x5 + (1) → ( L_X12_pressed_53 l g h x0 x1 x2 x3 0 v42  Q))) ∧ (¬ (x4 = 0) → ((Is 194 (h.2.2 x1 20) 20) ∧ ( (vp_in x5 (ax_s (h.2.2 x1 20)).2) ∧ ( ((¬ h.1 (h.2.2 x1 20) x5.toNatClampNeg = 61 → ((Is 194 (h.2.2 x1 20) 20) ∧ ( (vp_in x5 (ax_s (h.2.2 x1 20)).2) ∧ ( ((¬ h.1 (h.2.2 x1 20) x5.toNatClampNeg = 60 → (((v35 ≤ v39 → (∀ v51 : Int32, v51 = x5 + (1) → ( L_X12_pressed_53 l g h x0 x1 x2 x3 0 v51  Q))) ∧ (¬ (v35 ≤ v39) → (∀ v53 : Int32, v53 = x5 + (1) → ( L_X12_pressed_53 l g h x0 x1 x2 x3 1 v53  Q)))))) ∧ (h.1 (h.2.2 x1 20) x5.toNatClampNeg = 60 → (((v39 ≤ v35 → (∀ v56 : Int32, v56 = x5 + (1) → ( L_X12_pressed_53 l g h x0 x1 x2 x3 0 v56  Q))) ∧ (¬ (v39 ≤ v35) → (∀ v58 : Int32, v58 = x5 + (1) → ( L_X12_pressed_53 l g h x0 x1 x2 x3 1 v58  Q))))))))))) ∧ (h.1 (h.2.2 x1 20) x5.toNatClampNeg = 61 → (((¬ v35 = v39 → (∀ v61 : Int32, v61 = x5 + (1) → ( L_X12_pressed_53 l g h x0 x1 x2 x3 0 v61  Q))) ∧ (v35 = v39 → (∀ v63 : Int32, v63 = x5 + (1) → ( L_X12_pressed_53 l g h x0 x1 x2 x3 1 v63  Q)))))))))))))))))))))))))))) : L_X12_pressed_53 l g h x0 x1 x2 x3 x4 x5  Q := by
  refine wp_iload 5 dX12_pressed_53 rfl ?_
  refine wp_iconst (v := 3) dX12_pressed_55 (by decide) ?_
  refine wp_iload_n 3 dX12_pressed_56 rfl rfl ?_
  refine wp_imul dX12_pressed_57 ?_
  obtain ⟨i17, hb⟩ := hb
  refine wp_aload_n 1 dX12_pressed_58 rfl rfl ?_
  obtain ⟨i18, hb⟩ := hb
  refine wp_getR dX12_pressed_59 fl_X12_270 i17 (i18.ne (by decide)) ?_
  refine wp_iload_n 3 dX12_pressed_62 rfl rfl ?_
  obtain ⟨b19, hb⟩ := hb
  refine wp_iaload dX12_pressed_63 i18 b19 ?_
  refine wp_iadd dX12_pressed_64 ?_
  refine wp_icmp_ge (tgt := 160) dX12_pressed_65 (by decide) (fun c20 => ?_) (fun c20 => ?_)
  · have hb := hb.1 c20
    refine wp_iload_n 2 dX12_pressed_160 rfl rfl ?_
    refine wp_iload 4 dX12_pressed_161 rfl ?_
    refine wp_if_eq (tgt := 172) dX12_pressed_163 (by decide) (fun c21 => ?_) (fun c21 => ?_)
    · have hb := hb.1 c21
      refine wp_iconst (v := 0) dX12_pressed_172 (by decide) ?_
      refine wp_ior dX12_pressed_173 ?_
      refine wp_topi (fun v22 e23 => ?_)
      have hb := hb v22 e23
      refine wp_istore_n (lv2 := [(2, .int v22), (0, .ref x0), (1, .ref x1), (3, .int x3), (4, .int x4), (5, .int x5)]) dX12_pressed_174 rfl (by decide) rfl ?_
      obtain ⟨v24, e25⟩ : ∃ y : Int32, y = x3 + (1) := ⟨_, rfl⟩
      have hb := hb v24 e25
      refine wp_iinc (v := v24) (lv2 := [(3, .int v24), (2, .int v22), (0, .ref x0), (1, .ref x1), (4, .int x4), (5, .int x5)]) 3 dX12_pressed_175 rfl (by rw [e25]; rfl) (by decide) rfl ?_
      refine wp_goto (tgt := 13) dX12_pressed_178 (by decide) ?_
      exact wp_sub [2, 3, 1, 0] rfl hb
    · have hb := hb.2 c21
      refine wp_iconst (v := 1) dX12_pressed_166 (by decide) ?_
      refine wp_iload_n 3 dX12_pressed_167 rfl rfl ?_
      refine wp_ishl dX12_pressed_168 ?_
      refine wp_goto (tgt := 173) dX12_pressed_169 (by decide) ?_
      refine wp_ior dX12_pressed_173 ?_
      refine wp_topi (fun v26 e27 => ?_)
      have hb := hb v26 e27
      refine wp_istore_n (lv2 := [(2, .int v26), (0, .ref x0), (1, .ref x1), (3, .int x3), (4, .int x4), (5, .int x5)]) dX12_pressed_174 rfl (by decide) rfl ?_
      obtain ⟨v28, e29⟩ : ∃ y : Int32, y = x3 + (1) := ⟨_, rfl⟩
      have hb := hb v28 e29
      refine wp_iinc (v := v28) (lv2 := [(3, .int v28), (2, .int v26), (0, .ref x0), (1, .ref x1), (4, .int x4), (5, .int x5)]) 3 dX12_pressed_175 rfl (by rw [e29]; rfl) (by decide) rfl ?_
      refine wp_goto (tgt := 13) dX12_pressed_178 (by decide) ?_
      exact wp_sub [2, 3, 1, 0] rfl hb
  · have hb := hb.2 c20
    obtain ⟨i30, hb⟩ := hb
    refine wp_aload_n 0 dX12_pressed_68 rfl rfl ?_
    obtain ⟨i31, hb⟩ := hb
    refine wp_getR dX12_pressed_69 fl_X12_59 i30 (i31.ne (by decide)) ?_
    refine wp_aload_n 1 dX12_pressed_72 rfl rfl ?_
    obtain ⟨i32, hb⟩ := hb
    refine wp_getR dX12_pressed_73 fl_X12_291 i17 (i32.ne (by decide)) ?_
    refine wp_iload 5 dX12_pressed_76 rfl ?_
    obtain ⟨b33, hb⟩ := hb
    refine wp_iaload dX12_pressed_78 i32 b33 ?_
    obtain ⟨b34, hb⟩ := hb
    refine wp_iaload dX12_pressed_79 i31 b34 ?_
    refine wp_topi (fun v35 e36 => ?_)
    have hb := hb v35 e36
    refine wp_istore (lv2 := [(6, .int v35), (0, .ref x0), (1, .ref x1), (2, .int x2), (3, .int x3), (4, .int x4), (5, .int x5)]) dX12_pressed_80 (by decide) rfl ?_
    refine wp_aload_n 2 dX12_pressed_82 rfl rfl ?_
    obtain ⟨i37, hb⟩ := hb
    refine wp_getR dX12_pressed_83 fl_X12_297 i17 (i37.ne (by decide)) ?_
    refine wp_iload 6 dX12_pressed_86 rfl ?_
    obtain ⟨b38, hb⟩ := hb
    refine wp_iaload dX12_pressed_88 i37 b38 ?_
    refine wp_topi (fun v39 e40 => ?_)
    have hb := hb v39 e40
    refine wp_istore (lv2 := [(7, .int v39), (6, .int v35), (0, .ref x0), (1, .ref x1), (2, .int x2), (3, .int x3), (4, .int x4), (5, .int x5)]) dX12_pressed_89 (by decide) rfl ?_
    refine wp_iload 6 dX12_pressed_91 rfl ?_
    refine wp_if_eq (tgt := 151) dX12_pressed_93 (by decide) (fun c41 => ?_) (fun c41 => ?_)
    · have hb := hb.1 c41
      refine wp_iconst (v := 0) dX12_pressed_151 (by decide) ?_
      refine wp_istore (lv2 := [(4, .int 0), (7, .int v39), (6, .int v35), (0, .ref x0), (1, .ref x1), (2, .int x2), (3, .int x3), (5, .int x5)]) dX12_pressed_152 (by decide) rfl ?_
      obtain ⟨v42, e43⟩ : ∃ y : Int32, y = x5 + (1) := ⟨_, rfl⟩
      have hb := hb v42 e43
      refine wp_iinc (v := v42) (lv2 := [(5, .int v42), (4, .int 0), (7, .int v39), (6, .int v35), (0, .ref x0), (1, .ref x1), (2, .int x2), (3, .int x3)]) 7 dX12_pressed_154 rfl (by rw [e43]; rfl) (by decide) rfl ?_
      refine wp_goto (tgt := 53) dX12_pressed_157 (by decide) ?_
      exact wp_sub [4, 5, 6, 7, 1, 0] rfl hb
    · have hb := hb.2 c41
      refine wp_aload_n 3 dX12_pressed_96 rfl rfl ?_
      obtain ⟨i44, hb⟩ := hb
      refine wp_getR dX12_pressed_97 fl_X12_294 i17 (i44.ne (by decide)) ?_
      refine wp_iload 7 dX12_pressed_100 rfl ?_
      obtain ⟨b45, hb⟩ := hb
      refine wp_iaload dX12_pressed_102 i44 b45 ?_
      refine wp_bipush (v := 61) dX12_pressed_103 (by decide) ?_
      refine wp_icmp_ne (tgt := 118) dX12_pressed_105 (by decide) (fun c46 => ?_) (fun c46 => ?_)
      · have hb := hb.1 c46
        refine wp_aload_n 3 dX12_pressed_118 rfl rfl ?_
        obtain ⟨i47, hb⟩ := hb
        refine wp_getR dX12_pressed_119 fl_X12_294 i17 (i47.ne (by decide)) ?_
        refine wp_iload 7 dX12_pressed_122 rfl ?_
        obtain ⟨b48, hb⟩ := hb
        refine wp_iaload dX12_pressed_124 i47 b48 ?_
        refine wp_bipush (v := 60) dX12_pressed_125 (by decide) ?_
        refine wp_icmp_ne (tgt := 140) dX12_pressed_127 (by decide) (fun c49 => ?_) (fun c49 => ?_)
        · have hb := hb.1 c49
          refine wp_iload 1 dX12_pressed_140 rfl ?_
          refine wp_iload 0 dX12_pressed_142 rfl ?_
          refine wp_icmp_le (tgt := 151) dX12_pressed_144 (by decide) (fun c50 => ?_) (fun c50 => ?_)
          · have hb := hb.1 c50
            refine wp_iconst (v := 0) dX12_pressed_151 (by decide) ?_
            refine wp_istore (lv2 := [(4, .int 0), (7, .int v39), (6, .int v35), (0, .ref x0), (1, .ref x1), (2, .int x2), (3, .int x3), (5, .int x5)]) dX12_pressed_152 (by decide) rfl ?_
            obtain ⟨v51, e52⟩ : ∃ y : Int32, y = x5 + (1) := ⟨_, rfl⟩
            have hb := hb v51 e52
            refine wp_iinc (v := v51) (lv2 := [(5, .int v51), (4, .int 0), (7, .int v39), (6, .int v35), (0, .ref x0), (1, .ref x1), (2, .int x2), (3, .int x3)]) 7 dX12_pressed_154 rfl (by rw [e52]; rfl) (by decide) rfl ?_
            refine wp_goto (tgt := 53) dX12_pressed_157 (by decide) ?_
            exact wp_sub [4, 5, 6, 7, 1, 0] rfl hb
          · have hb := hb.2 c50
            refine wp_iconst (v := 1) dX12_pressed_147 (by decide) ?_
            refine wp_goto (tgt := 152) dX12_pressed_148 (by decide) ?_
            refine wp_istore (lv2 := [(4, .int 1), (7, .int v39), (6, .int v35), (0, .ref x0), (1, .ref x1), (2, .int x2), (3, .int x3), (5, .int x5)]) dX12_pressed_152 (by decide) rfl ?_
            obtain ⟨v53, e54⟩ : ∃ y : Int32, y = x5 + (1) := ⟨_, rfl⟩
            have hb := hb v53 e54
            refine wp_iinc (v := v53) (lv2 := [(5, .int v53), (4, .int 1), (7, .int v39), (6, .int v35), (0, .ref x0), (1, .ref x1), (2, .int x2), (3, .int x3)]) 7 dX12_pressed_154 rfl (by rw [e54]; rfl) (by decide) rfl ?_
            refine wp_goto (tgt := 53) dX12_pressed_157 (by decide) ?_
            exact wp_sub [4, 5, 6, 7, 1, 0] rfl hb
        · have hb := hb.2 c49
          refine wp_iload 1 dX12_pressed_130 rfl ?_
          refine wp_iload 0 dX12_pressed_132 rfl ?_
          refine wp_icmp_ge (tgt := 151) dX12_pressed_134 (by decide) (fun c55 => ?_) (fun c55 => ?_)
          · have hb := hb.1 c55
            refine wp_iconst (v := 0) dX12_pressed_151 (by decide) ?_
            refine wp_istore (lv2 := [(4, .int 0), (7, .int v39), (6, .int v35), (0, .ref x0), (1, .ref x1), (2, .int x2), (3, .int x3), (5, .int x5)]) dX12_pressed_152 (by decide) rfl ?_
            obtain ⟨v56, e57⟩ : ∃ y : Int32, y = x5 + (1) := ⟨_, rfl⟩
            have hb := hb v56 e57
            refine wp_iinc (v := v56) (lv2 := [(5, .int v56), (4, .int 0), (7, .int v39), (6, .int v35), (0, .ref x0), (1, .ref x1), (2, .int x2), (3, .int x3)]) 7 dX12_pressed_154 rfl (by rw [e57]; rfl) (by decide) rfl ?_
            refine wp_goto (tgt := 53) dX12_pressed_157 (by decide) ?_
            exact wp_sub [4, 5, 6, 7, 1, 0] rfl hb
          · have hb := hb.2 c55
            refine wp_goto (tgt := 147) dX12_pressed_137 (by decide) ?_
            refine wp_iconst (v := 1) dX12_pressed_147 (by decide) ?_
            refine wp_goto (tgt := 152) dX12_pressed_148 (by decide) ?_
            refine wp_istore (lv2 := [(4, .int 1), (7, .int v39), (6, .int v35), (0, .ref x0), (1, .ref x1), (2, .int x2), (3, .int x3), (5, .int x5)]) dX12_pressed_152 (by decide) rfl ?_
            obtain ⟨v58, e59⟩ : ∃ y : Int32, y = x5 + (1) := ⟨_, rfl⟩
            have hb := hb v58 e59
            refine wp_iinc (v := v58) (lv2 := [(5, .int v58), (4, .int 1), (7, .int v39), (6, .int v35), (0, .ref x0), (1, .ref x1), (2, .int x2), (3, .int x3)]) 7 dX12_pressed_154 rfl (by rw [e59]; rfl) (by decide) rfl ?_
            refine wp_goto (tgt := 53) dX12_pressed_157 (by decide) ?_
            exact wp_sub [4, 5, 6, 7, 1, 0] rfl hb
      · have hb := hb.2 c46
        refine wp_iload 1 dX12_pressed_108 rfl ?_
        refine wp_iload 0 dX12_pressed_110 rfl ?_
        refine wp_icmp_ne (tgt := 151) dX12_pressed_112 (by decide) (fun c60 => ?_) (fun c60 => ?_)
        · have hb := hb.1 c60
          refine wp_iconst (v := 0) dX12_pressed_151 (by decide) ?_
          refine wp_istore (lv2 := [(4, .int 0), (7, .int v39), (6, .int v35), (0, .ref x0), (1, .ref x1), (2, .int x2), (3, .int x3), (5, .int x5)]) dX12_pressed_152 (by decide) rfl ?_
          obtain ⟨v61, e62⟩ : ∃ y : Int32, y = x5 + (1) := ⟨_, rfl⟩
          have hb := hb v61 e62
          refine wp_iinc (v := v61) (lv2 := [(5, .int v61), (4, .int 0), (7, .int v39), (6, .int v35), (0, .ref x0), (1, .ref x1), (2, .int x2), (3, .int x3)]) 7 dX12_pressed_154 rfl (by rw [e62]; rfl) (by decide) rfl ?_
          refine wp_goto (tgt := 53) dX12_pressed_157 (by decide) ?_
          exact wp_sub [4, 5, 6, 7, 1, 0] rfl hb
        · have hb := hb.2 c60
          refine wp_goto (tgt := 147) dX12_pressed_115 (by decide) ?_
          refine wp_iconst (v := 1) dX12_pressed_147 (by decide) ?_
          refine wp_goto (tgt := 152) dX12_pressed_148 (by decide) ?_
          refine wp_istore (lv2 := [(4, .int 1), (7, .int v39), (6, .int v35), (0, .ref x0), (1, .ref x1), (2, .int x2), (3, .int x3), (5, .int x5)]) dX12_pressed_152 (by decide) rfl ?_
          obtain ⟨v63, e64⟩ : ∃ y : Int32, y = x5 + (1) := ⟨_, rfl⟩
          have hb := hb v63 e64
          refine wp_iinc (v := v63) (lv2 := [(5, .int v63), (4, .int 1), (7, .int v39), (6, .int v35), (0, .ref x0), (1, .ref x1), (2, .int x2), (3, .int x3)]) 7 dX12_pressed_154 rfl (by rw [e64]; rfl) (by decide) rfl ?_
          refine wp_goto (tgt := 53) dX12_pressed_157 (by decide) ?_
          exact wp_sub [4, 5, 6, 7, 1, 0] rfl hb
theorem c_X12_pressed {l : Launch} {g : AG} {h : AH} {x0 : Nat} {x1 : Nat}  {Q : Int32 → AH → Prop} (hb : L_X12_pressed_0 l g h x0 x1  Q) : C_X12_pressed l g h x0 x1  Q := ax_met rfl (Nat.le_of_ble_eq_true rfl) hb
