def C_X12_parts (l : Launch) (g : AG) (h : AH) (x0 : Nat)  (Q : AH → Prop) : Prop := Ct l g mX12_parts 2 53 194 194 h [.ref x0] (ax_QV Q)
def L_X12_parts_0 (l : Launch) (g : AG) (h : AH) (x0 : Nat)  (Q : AH → Prop) : Prop := Wp l g mX12_parts 2 53 194 194 194 0 [(0, .ref x0)] [] h (FM g 194 194 (ax_QV Q))
def L_X12_parts_12 (l : Launch) (g : AG) (h : AH) (x0 : Nat) (x1 : Nat) (x2 : Int32)  (Q : AH → Prop) : Prop := Wp l g mX12_parts 2 53 194 194 194 12 [(0, .ref x0), (1, .ref x1), (2, .int x2)] [] h (FM g 194 194 (ax_QV Q))
def L_X12_parts_52 (l : Launch) (g : AG) (h : AH) (x0 : Nat) (x2 : Int32)  (Q : AH → Prop) : Prop := Wp l g mX12_parts 2 53 194 194 194 52 [(0, .ref x0), (2, .int x2)] [] h (FM g 194 194 (ax_QV Q))
def L_X12_parts_72 (l : Launch) (g : AG) (h : AH) (x0 : Nat) (x2 : Int32) (x3 : Int32)  (Q : AH → Prop) : Prop := Wp l g mX12_parts 2 53 194 194 194 72 [(0, .ref x0), (2, .int x2), (3, .int x3)] [] h (FM g 194 194 (ax_QV Q))
def L_X12_parts_156 (l : Launch) (g : AG) (h : AH) (x0 : Nat) (x2 : Int32) (x3 : Int32)  (Q : AH → Prop) : Prop := Wp l g mX12_parts 2 53 194 194 194 156 [(0, .ref x0), (2, .int x2), (3, .int x3)] [] h (FM g 194 194 (ax_QV Q))
def L_X12_parts_83 (l : Launch) (g : AG) (h : AH) (x0 : Nat) (x2 : Int32) (x3 : Int32) (x4 : Int32)  (Q : AH → Prop) : Prop := Wp l g mX12_parts 2 53 194 194 194 83 [(0, .ref x0), (2, .int x2), (3, .int x3), (4, .int x4)] [] h (FM g 194 194 (ax_QV Q))
def L_X12_parts_113 (l : Launch) (g : AG) (h : AH) (x0 : Nat) (x2 : Int32) (x3 : Int32) (x4 : Int32)  (Q : AH → Prop) : Prop := Wp l g mX12_parts 2 53 194 194 194 113 [(0, .ref x0), (2, .int x2), (3, .int x3), (4, .int x4)] [] h (FM g 194 194 (ax_QV Q))
set_option maxRecDepth 100000 in
set_option maxHeartbeats 4000000 in
theorem s_X12_parts_0 {l : Launch} {g : AG} {h : AH} {x0 : Nat}  {Q : AH → Prop} (hb : (Is 194 x0 11) ∧ ( (Is 194 (h.2.2 x0 4) 25) ∧ ( (vp_in (h.1 x0 24) (ax_s (h.2.2 x0 4)).2) ∧ ( (Is 194 (h.2.2 (h.2.2 x0 4) (h.1 x0 24).toNatClampNeg) 9) ∧ ( ∀ v5 : Nat, v5 = (h.2.2 (h.2.2 x0 4) (h.1 x0 24).toNatClampNeg) → ( L_X12_parts_12 l g h x0 v5 0  Q)))))) : L_X12_parts_0 l g h x0  Q := by
  obtain ⟨i1, hb⟩ := hb
  refine wp_aload_n 0 dX12_parts_0 rfl rfl ?_
  obtain ⟨i2, hb⟩ := hb
  refine wp_getR dX12_parts_1 fl_X12_21 i1 (i2.ne (by decide)) ?_
  refine wp_aload_n 0 dX12_parts_4 rfl rfl ?_
  refine wp_getI dX12_parts_5 fl_X12_62 i1 ?_
  obtain ⟨b3, hb⟩ := hb
  obtain ⟨i4, hb⟩ := hb
  refine wp_aaload25 dX12_parts_8 i2 b3 (i4.ne (by decide)) ?_
  refine wp_topr (fun v5 e6 => ?_)
  have hb := hb v5 e6
  have i7 : Is 194 v5 9 := by rw [e6]; exact i4
  refine wp_astore_n (lv2 := [(1, .ref v5), (0, .ref x0)]) dX12_parts_9 rfl (by decide) rfl ?_
  refine wp_iconst (v := 0) dX12_parts_10 (by decide) ?_
  refine wp_istore_n (lv2 := [(2, .int 0), (1, .ref v5), (0, .ref x0)]) dX12_parts_11 rfl (by decide) rfl ?_
  exact wp_sub [2, 1, 0] rfl hb
set_option maxRecDepth 100000 in
set_option maxHeartbeats 4000000 in
theorem s_X12_parts_12 {l : Launch} {g : AG} {h : AH} {x0 : Nat} {x1 : Nat} {x2 : Int32}  {Q : AH → Prop} (hb : (Is 194 x0 11) ∧ ( ((h.1 x0 25 ≤ x2 → (∀ h10 : AH, h10 = ax_setI h x0 36 1 → ( L_X12_parts_52 l g h10 x0 0  Q))) ∧ (¬ (h.1 x0 25 ≤ x2) → ((Is 194 (h.2.2 x0 37) 21) ∧ ( (Is 194 x1 9) ∧ ( C_X12_view l g h x0 x1 x2 (fun r16 h15 => ( (vp_in x2 (ax_s (h.2.2 x0 37)).2) ∧ ( ∀ h18 : AH, h18 = ax_setL h15 (h.2.2 x0 37) x2.toNatClampNeg r16 → ( (Is 194 (h18.2.2 x0 32) 20) ∧ ( (vp_in x2 (ax_s (h18.2.2 x0 32)).2) ∧ ( ∀ h22 : AH, h22 = ax_setI h18 (h18.2.2 x0 32) x2.toNatClampNeg 0 → ( ∀ v24 : Int32, v24 = x2 + (1) → ( L_X12_parts_12 l g h22 x0 x1 v24  Q))))))))))))))) : L_X12_parts_12 l g h x0 x1 x2  Q := by
  refine wp_iload_n 2 dX12_parts_12 rfl rfl ?_
  obtain ⟨i8, hb⟩ := hb
  refine wp_aload_n 0 dX12_parts_13 rfl rfl ?_
  refine wp_getI dX12_parts_14 fl_X12_334 i8 ?_
  refine wp_icmp_ge (tgt := 45) dX12_parts_17 (by decide) (fun c9 => ?_) (fun c9 => ?_)
  · have hb := hb.1 c9
    refine wp_iconst (v := 0) dX12_parts_45 (by decide) ?_
    refine wp_istore_n (lv2 := [(2, .int 0), (0, .ref x0), (1, .ref x1)]) dX12_parts_46 rfl (by decide) rfl ?_
    refine wp_aload_n 1 dX12_parts_47 rfl rfl ?_
    refine wp_iconst (v := 1) dX12_parts_48 (by decide) ?_
    refine wp_putI dX12_parts_49 fl_X12_405 (Or.inl rfl) i8 ?_
    refine wp_topH (fun h10 e11 => ?_)
    have hb := hb h10 e11
    exact wp_sub [1, 0] rfl hb
  · have hb := hb.2 c9
    refine wp_aload_n 0 dX12_parts_20 rfl rfl ?_
    obtain ⟨i12, hb⟩ := hb
    refine wp_getR dX12_parts_21 fl_X12_95 i8 (i12.ne (by decide)) ?_
    refine wp_iload_n 2 dX12_parts_24 rfl rfl ?_
    refine wp_aload_n 0 dX12_parts_25 rfl rfl ?_
    obtain ⟨i13, hb⟩ := hb
    refine wp_aload_n 1 dX12_parts_26 rfl rfl ?_
    refine wp_iload_n 2 dX12_parts_27 rfl rfl ?_
    refine wp_callV (as := [.ref x1, .int x2]) dX12_parts_28 cb_X12_view lk_X12_401 im_X12_view se_X12_view rfl (Nat.le_of_ble_eq_true rfl) ⟨by decide, by decide⟩ ⟨Nat.le_refl _, Nat.le_refl _, Nat.le_refl _⟩ i8 rfl (by decide) hb (fun r0 h15 hb => ?_)
    obtain ⟨r16, rfl, hb⟩ := hb
    obtain ⟨b17, hb⟩ := hb
    refine wp_lastore dX12_parts_31 i12 b17 ?_
    refine wp_topH (fun h18 e19 => ?_)
    have hb := hb h18 e19
    refine wp_aload_n 0 dX12_parts_32 rfl rfl ?_
    obtain ⟨i20, hb⟩ := hb
    refine wp_getR dX12_parts_33 fl_X12_83 i8 (i20.ne (by decide)) ?_
    refine wp_iload_n 2 dX12_parts_36 rfl rfl ?_
    refine wp_iconst (v := 0) dX12_parts_37 (by decide) ?_
    obtain ⟨b21, hb⟩ := hb
    refine wp_iastore dX12_parts_38 i20 b21 ?_
    refine wp_topH (fun h22 e23 => ?_)
    have hb := hb h22 e23
    obtain ⟨v24, e25⟩ : ∃ y : Int32, y = x2 + (1) := ⟨_, rfl⟩
    have hb := hb v24 e25
    refine wp_iinc (v := v24) (lv2 := [(2, .int v24), (0, .ref x0), (1, .ref x1)]) 2 dX12_parts_39 rfl (by rw [e25]; rfl) (by decide) rfl ?_
    refine wp_goto (tgt := 12) dX12_parts_42 (by decide) ?_
    exact wp_sub [1, 2, 0] rfl hb
set_option maxRecDepth 100000 in
set_option maxHeartbeats 4000000 in
theorem s_X12_parts_52 {l : Launch} {g : AG} {h : AH} {x0 : Nat} {x2 : Int32}  {Q : AH → Prop} (hb : (Is 194 x0 11) ∧ ( ((h.1 x0 36 = x2 → (Q h)) ∧ (¬ (h.1 x0 36 = x2) → (∀ v28 : Int32, v28 = (h.1 x0 36) → ( ∀ h30 : AH, h30 = ax_setI h x0 36 0 → ( L_X12_parts_72 l g h30 x0 v28 0  Q))))))) : L_X12_parts_52 l g h x0 x2  Q := by
  obtain ⟨i26, hb⟩ := hb
  refine wp_aload_n 0 dX12_parts_52 rfl rfl ?_
  refine wp_getI dX12_parts_53 fl_X12_405 i26 ?_
  refine wp_iload_n 1 dX12_parts_56 rfl rfl ?_
  refine wp_icmp_eq (tgt := 185) dX12_parts_57 (by decide) (fun c27 => ?_) (fun c27 => ?_)
  · have hb := hb.1 c27
    exact wp_vret rfl dX12_parts_185 ⟨rfl, hb⟩
  · have hb := hb.2 c27
    refine wp_aload_n 0 dX12_parts_60 rfl rfl ?_
    refine wp_getI dX12_parts_61 fl_X12_405 i26 ?_
    refine wp_topi (fun v28 e29 => ?_)
    have hb := hb v28 e29
    refine wp_istore_n (lv2 := [(2, .int v28), (0, .ref x0)]) dX12_parts_64 rfl (by decide) rfl ?_
    refine wp_aload_n 1 dX12_parts_65 rfl rfl ?_
    refine wp_iconst (v := 0) dX12_parts_66 (by decide) ?_
    refine wp_putI dX12_parts_67 fl_X12_405 (Or.inl rfl) i26 ?_
    refine wp_topH (fun h30 e31 => ?_)
    have hb := hb h30 e31
    refine wp_iconst (v := 0) dX12_parts_70 (by decide) ?_
    refine wp_istore_n (lv2 := [(3, .int 0), (2, .int v28), (0, .ref x0)]) dX12_parts_71 rfl (by decide) rfl ?_
    exact wp_sub [2, 1, 0] rfl hb
set_option maxRecDepth 100000 in
set_option maxHeartbeats 4000000 in
theorem s_X12_parts_72 {l : Launch} {g : AG} {h : AH} {x0 : Nat} {x2 : Int32} {x3 : Int32}  {Q : AH → Prop} (hb : (Is 194 x0 11) ∧ ( ((h.1 x0 25 ≤ x3 → (L_X12_parts_156 l g h x0 x2 0  Q)) ∧ (¬ (h.1 x0 25 ≤ x3) → (L_X12_parts_83 l g h x0 x2 x3 0  Q))))) : L_X12_parts_72 l g h x0 x2 x3  Q := by
  refine wp_iload_n 2 dX12_parts_72 rfl rfl ?_
  obtain ⟨i32, hb⟩ := hb
  refine wp_aload_n 0 dX12_parts_73 rfl rfl ?_
  refine wp_getI dX12_parts_74 fl_X12_334 i32 ?_
  refine wp_icmp_ge (tgt := 154) dX12_parts_77 (by decide) (fun c33 => ?_) (fun c33 => ?_)
  · have hb := hb.1 c33
    refine wp_iconst (v := 0) dX12_parts_154 (by decide) ?_
    refine wp_istore_n (lv2 := [(3, .int 0), (0, .ref x0), (2, .int x2)]) dX12_parts_155 rfl (by decide) rfl ?_
    exact wp_sub [1, 2, 0] rfl hb
  · have hb := hb.2 c33
    refine wp_iconst (v := 0) dX12_parts_80 (by decide) ?_
    refine wp_istore (lv2 := [(4, .int 0), (0, .ref x0), (2, .int x2), (3, .int x3)]) dX12_parts_81 (by decide) rfl ?_
    exact wp_sub [1, 2, 3, 0] rfl hb
set_option maxRecDepth 100000 in
set_option maxHeartbeats 4000000 in
theorem s_X12_parts_156 {l : Launch} {g : AG} {h : AH} {x0 : Nat} {x2 : Int32} {x3 : Int32}  {Q : AH → Prop} (hb : (Is 194 x0 11) ∧ ( ((h.1 x0 25 ≤ x3 → (L_X12_parts_52 l g h x0 x2  Q)) ∧ (¬ (h.1 x0 25 ≤ x3) → ((Is 194 (h.2.2 x0 32) 20) ∧ ( (Is 194 (h.2.2 x0 33) 20) ∧ ( (vp_in x3 (ax_s (h.2.2 x0 33)).2) ∧ ( (vp_in x3 (ax_s (h.2.2 x0 32)).2) ∧ ( ∀ h40 : AH, h40 = ax_setI h (h.2.2 x0 32) x3.toNatClampNeg (h.1 (h.2.2 x0 33) x3.toNatClampNeg) → ( ∀ v42 : Int32, v42 = x3 + (1) → ( L_X12_parts_156 l g h40 x0 x2 v42  Q))))))))))) : L_X12_parts_156 l g h x0 x2 x3  Q := by
  refine wp_iload_n 2 dX12_parts_156 rfl rfl ?_
  obtain ⟨i34, hb⟩ := hb
  refine wp_aload_n 0 dX12_parts_157 rfl rfl ?_
  refine wp_getI dX12_parts_158 fl_X12_334 i34 ?_
  refine wp_icmp_ge (tgt := 182) dX12_parts_161 (by decide) (fun c35 => ?_) (fun c35 => ?_)
  · have hb := hb.1 c35
    refine wp_goto (tgt := 52) dX12_parts_182 (by decide) ?_
    exact wp_sub [0, 1] rfl hb
  · have hb := hb.2 c35
    refine wp_aload_n 0 dX12_parts_164 rfl rfl ?_
    obtain ⟨i36, hb⟩ := hb
    refine wp_getR dX12_parts_165 fl_X12_83 i34 (i36.ne (by decide)) ?_
    refine wp_iload_n 2 dX12_parts_168 rfl rfl ?_
    refine wp_aload_n 0 dX12_parts_169 rfl rfl ?_
    obtain ⟨i37, hb⟩ := hb
    refine wp_getR dX12_parts_170 fl_X12_86 i34 (i37.ne (by decide)) ?_
    refine wp_iload_n 2 dX12_parts_173 rfl rfl ?_
    obtain ⟨b38, hb⟩ := hb
    refine wp_iaload dX12_parts_174 i37 b38 ?_
    obtain ⟨b39, hb⟩ := hb
    refine wp_iastore dX12_parts_175 i36 b39 ?_
    refine wp_topH (fun h40 e41 => ?_)
    have hb := hb h40 e41
    obtain ⟨v42, e43⟩ : ∃ y : Int32, y = x3 + (1) := ⟨_, rfl⟩
    have hb := hb v42 e43
    refine wp_iinc (v := v42) (lv2 := [(3, .int v42), (0, .ref x0), (2, .int x2)]) 2 dX12_parts_176 rfl (by rw [e43]; rfl) (by decide) rfl ?_
    refine wp_goto (tgt := 156) dX12_parts_179 (by decide) ?_
    exact wp_sub [1, 2, 0] rfl hb
set_option maxRecDepth 100000 in
set_option maxHeartbeats 4000000 in
theorem s_X12_parts_83 {l : Launch} {g : AG} {h : AH} {x0 : Nat} {x2 : Int32} {x3 : Int32} {x4 : Int32}  {Q : AH → Prop} (hb : (Is 194 x0 11) ∧ ( ((h.1 x0 36 ≤ x4 → (L_X12_parts_113 l g h x0 x2 x3 x4  Q)) ∧ (¬ (h.1 x0 36 ≤ x4) → ((Is 194 (h.2.2 x0 34) 20) ∧ ( (vp_in x4 (ax_s (h.2.2 x0 34)).2) ∧ ( C_X12_isLike l g h x0 x3 (h.1 (h.2.2 x0 34) x4.toNatClampNeg) (fun r50 h49 => ( ((¬ r50 = 0 → (L_X12_parts_113 l g h49 x0 x2 x3 x4  Q)) ∧ (r50 = 0 → (∀ v52 : Int32, v52 = x4 + (1) → ( L_X12_parts_83 l g h49 x0 x2 x3 v52  Q))))))))))))) : L_X12_parts_83 l g h x0 x2 x3 x4  Q := by
  refine wp_iload 3 dX12_parts_83 rfl ?_
  obtain ⟨i44, hb⟩ := hb
  refine wp_aload_n 0 dX12_parts_85 rfl rfl ?_
  refine wp_getI dX12_parts_86 fl_X12_405 i44 ?_
  refine wp_icmp_ge (tgt := 113) dX12_parts_89 (by decide) (fun c45 => ?_) (fun c45 => ?_)
  · have hb := hb.1 c45
    exact hb
  · have hb := hb.2 c45
    refine wp_aload_n 0 dX12_parts_92 rfl rfl ?_
    refine wp_iload_n 2 dX12_parts_93 rfl rfl ?_
    refine wp_aload_n 0 dX12_parts_94 rfl rfl ?_
    obtain ⟨i46, hb⟩ := hb
    refine wp_getR dX12_parts_95 fl_X12_89 i44 (i46.ne (by decide)) ?_
    refine wp_iload 3 dX12_parts_98 rfl ?_
    obtain ⟨b47, hb⟩ := hb
    refine wp_iaload dX12_parts_100 i46 b47 ?_
    refine wp_callV (as := [.int x3, .int (h.1 (h.2.2 x0 34) x4.toNatClampNeg)]) dX12_parts_101 cb_X12_isLike lk_X12_408 im_X12_isLike se_X12_isLike rfl (Nat.le_of_ble_eq_true rfl) ⟨by decide, by decide⟩ ⟨Nat.le_refl _, Nat.le_refl _, Nat.le_refl _⟩ i44 rfl (by decide) hb (fun r0 h49 hb => ?_)
    obtain ⟨r50, rfl, hb⟩ := hb
    refine wp_if_ne (tgt := 113) dX12_parts_104 (by decide) (fun c51 => ?_) (fun c51 => ?_)
    · have hb := hb.1 c51
      exact hb
    · have hb := hb.2 c51
      obtain ⟨v52, e53⟩ : ∃ y : Int32, y = x4 + (1) := ⟨_, rfl⟩
      have hb := hb v52 e53
      refine wp_iinc (v := v52) (lv2 := [(4, .int v52), (0, .ref x0), (2, .int x2), (3, .int x3)]) 3 dX12_parts_107 rfl (by rw [e53]; rfl) (by decide) rfl ?_
      refine wp_goto (tgt := 83) dX12_parts_110 (by decide) ?_
      exact wp_sub [1, 2, 3, 0] rfl hb
set_option maxRecDepth 100000 in
set_option maxHeartbeats 4000000 in
theorem s_X12_parts_113 {l : Launch} {g : AG} {h : AH} {x0 : Nat} {x2 : Int32} {x3 : Int32} {x4 : Int32}  {Q : AH → Prop} (hb : (Is 194 x0 11) ∧ ( ((¬ x4 = h.1 x0 36 → ((Is 194 (h.2.2 x0 33) 20) ∧ ( (vp_in x3 (ax_s (h.2.2 x0 33)).2) ∧ ( ∀ h58 : AH, h58 = ax_setI h (h.2.2 x0 33) x3.toNatClampNeg x4 → ( ∀ v60 : Int32, v60 = x3 + (1) → ( L_X12_parts_72 l g h58 x0 x2 v60  Q)))))) ∧ (x4 = h.1 x0 36 → ((Is 194 (h.2.2 x0 34) 20) ∧ ( (vp_in x4 (ax_s (h.2.2 x0 34)).2) ∧ ( ∀ h64 : AH, h64 = ax_setI h (h.2.2 x0 34) x4.toNatClampNeg x3 → ( ∀ h66 : AH, h66 = ax_setI h64 x0 36 ((h64.1 x0 36) + 1) → ( (Is 194 (h66.2.2 x0 33) 20) ∧ ( (vp_in x3 (ax_s (h66.2.2 x0 33)).2) ∧ ( ∀ h70 : AH, h70 = ax_setI h66 (h66.2.2 x0 33) x3.toNatClampNeg x4 → ( ∀ v72 : Int32, v72 = x3 + (1) → ( L_X12_parts_72 l g h70 x0 x2 v72  Q))))))))))))) : L_X12_parts_113 l g h x0 x2 x3 x4  Q := by
  refine wp_iload 3 dX12_parts_113 rfl ?_
  obtain ⟨i54, hb⟩ := hb
  refine wp_aload_n 0 dX12_parts_115 rfl rfl ?_
  refine wp_getI dX12_parts_116 fl_X12_405 i54 ?_
  refine wp_icmp_ne (tgt := 140) dX12_parts_119 (by decide) (fun c55 => ?_) (fun c55 => ?_)
  · have hb := hb.1 c55
    refine wp_aload_n 0 dX12_parts_140 rfl rfl ?_
    obtain ⟨i56, hb⟩ := hb
    refine wp_getR dX12_parts_141 fl_X12_86 i54 (i56.ne (by decide)) ?_
    refine wp_iload_n 2 dX12_parts_144 rfl rfl ?_
    refine wp_iload 3 dX12_parts_145 rfl ?_
    obtain ⟨b57, hb⟩ := hb
    refine wp_iastore dX12_parts_147 i56 b57 ?_
    refine wp_topH (fun h58 e59 => ?_)
    have hb := hb h58 e59
    obtain ⟨v60, e61⟩ : ∃ y : Int32, y = x3 + (1) := ⟨_, rfl⟩
    have hb := hb v60 e61
    refine wp_iinc (v := v60) (lv2 := [(3, .int v60), (0, .ref x0), (2, .int x2), (4, .int x4)]) 2 dX12_parts_148 rfl (by rw [e61]; rfl) (by decide) rfl ?_
    refine wp_goto (tgt := 72) dX12_parts_151 (by decide) ?_
    exact wp_sub [1, 2, 0] rfl hb
  · have hb := hb.2 c55
    refine wp_aload_n 0 dX12_parts_122 rfl rfl ?_
    obtain ⟨i62, hb⟩ := hb
    refine wp_getR dX12_parts_123 fl_X12_89 i54 (i62.ne (by decide)) ?_
    refine wp_iload 3 dX12_parts_126 rfl ?_
    refine wp_iload_n 2 dX12_parts_128 rfl rfl ?_
    obtain ⟨b63, hb⟩ := hb
    refine wp_iastore dX12_parts_129 i62 b63 ?_
    refine wp_topH (fun h64 e65 => ?_)
    have hb := hb h64 e65
    refine wp_aload_n 0 dX12_parts_130 rfl rfl ?_
    refine wp_dup dX12_parts_131 rfl ?_
    refine wp_getI dX12_parts_132 fl_X12_405 i54 ?_
    refine wp_iconst (v := 1) dX12_parts_135 (by decide) ?_
    refine wp_iadd dX12_parts_136 ?_
    refine wp_putI dX12_parts_137 fl_X12_405 (Or.inl rfl) i54 ?_
    refine wp_topH (fun h66 e67 => ?_)
    have hb := hb h66 e67
    refine wp_aload_n 0 dX12_parts_140 rfl rfl ?_
    obtain ⟨i68, hb⟩ := hb
    refine wp_getR dX12_parts_141 fl_X12_86 i54 (i68.ne (by decide)) ?_
    refine wp_iload_n 2 dX12_parts_144 rfl rfl ?_
    refine wp_iload 3 dX12_parts_145 rfl ?_
    obtain ⟨b69, hb⟩ := hb
    refine wp_iastore dX12_parts_147 i68 b69 ?_
    refine wp_topH (fun h70 e71 => ?_)
    have hb := hb h70 e71
    obtain ⟨v72, e73⟩ : ∃ y : Int32, y = x3 + (1) := ⟨_, rfl⟩
    have hb := hb v72 e73
    refine wp_iinc (v := v72) (lv2 := [(3, .int v72), (0, .ref x0), (2, .int x2), (4, .int x4)]) 2 dX12_parts_148 rfl (by rw [e73]; rfl) (by decide) rfl ?_
    refine wp_goto (tgt := 72) dX12_parts_151 (by decide) ?_
    exact wp_sub [1, 2, 0] rfl hb
theorem c_X12_parts {l : Launch} {g : AG} {h : AH} {x0 : Nat}  {Q : AH → Prop} (hb : L_X12_parts_0 l g h x0  Q) : C_X12_parts l g h x0  Q := ax_met rfl rfl (Nat.le_of_ble_eq_true rfl) hb
def C_X12_map (l : Launch) (g : AG) (h : AH) (x0 : Nat) (x1 : Int32)  (Q : Int32 → AH → Prop) : Prop := Ct l g mX12_map 3 77 194 194 h [.ref x0, .int x1] (ax_QI Q)
def L_X12_map_0 (l : Launch) (g : AG) (h : AH) (x0 : Nat) (x1 : Int32)  (Q : Int32 → AH → Prop) : Prop := Wp l g mX12_map 3 77 194 194 194 0 [(0, .ref x0), (1, .int x1)] [] h (FM g 194 194 (ax_QI Q))
def L_X12_map_48 (l : Launch) (g : AG) (h : AH) (x0 : Nat) (x1 : Int32) (x2 : Nat) (x3 : Int32)  (Q : Int32 → AH → Prop) : Prop := Wp l g mX12_map 3 77 194 194 194 48 [(0, .ref x0), (1, .int x1), (2, .ref x2), (3, .int x3)] [] h (FM g 194 194 (ax_QI Q))
def L_X12_map_86 (l : Launch) (g : AG) (h : AH) (x0 : Nat) (x1 : Int32) (x2 : Nat) (x3 : Int32) (x4 : Int32)  (Q : Int32 → AH → Prop) : Prop := Wp l g mX12_map 3 77 194 194 194 86 [(0, .ref x0), (1, .int x1), (2, .ref x2), (3, .int x3), (4, .int x4)] [] h (FM g 194 194 (ax_QI Q))
def L_X12_map_188 (l : Launch) (g : AG) (h : AH) (x0 : Nat) (x1 : Int32) (x2 : Nat) (x3 : Int32) (x4 : Int32) (x5 : Int32)  (Q : Int32 → AH → Prop) : Prop := Wp l g mX12_map 3 77 194 194 194 188 [(0, .ref x0), (1, .int x1), (2, .ref x2), (3, .int x3), (4, .int x4), (5, .int x5)] [] h (FM g 194 194 (ax_QI Q))
def L_X12_map_207 (l : Launch) (g : AG) (h : AH) (x0 : Nat) (x1 : Int32) (x2 : Nat) (x3 : Int32) (x4 : Int32) (x5 : Int32)  (Q : Int32 → AH → Prop) : Prop := Wp l g mX12_map 3 77 194 194 194 207 [(0, .ref x0), (1, .int x1), (2, .ref x2), (3, .int x3), (4, .int x4), (5, .int x5)] [] h (FM g 194 194 (ax_QI Q))
set_option maxRecDepth 100000 in
set_option maxHeartbeats 4000000 in
theorem s_X12_map_0 {l : Launch} {g : AG} {h : AH} {x0 : Nat} {x1 : Int32}  {Q : Int32 → AH → Prop} (hb : (Is 194 x0 11) ∧ ( ∀ h2 : AH, h2 = ax_setI h x0 0 0 → ( C_X12_isApp l g h2 x0 x1 (fun r6 h5 => ( ((¬ r6 = 0 → ((Is 194 (h5.2.2 x0 4) 25) ∧ ( (vp_in x1 (ax_s (h5.2.2 x0 4)).2) ∧ ( (Is 194 (h5.2.2 (h5.2.2 x0 4) x1.toNatClampNeg) 9) ∧ ( ∀ v11 : Nat, v11 = (h5.2.2 (h5.2.2 x0 4) x1.toNatClampNeg) → ( ∀ h14 : AH, h14 = ax_setI h5 x0 25 0 → ( ∀ h16 : AH, h16 = ax_setI h14 x0 24 (-1) → ( C_X12_begins l g h16 x0 (fun h19 => ( C_X12_meets l g h19 x0 (-1) (-1) (fun h21 => ( L_X12_map_48 l g h21 x0 x1 v11 0  Q)))))))))))) ∧ (r6 = 0 → (C_X12_refused l g h5 x0 1 (fun r24 h23 => ( Q r24 h23)))))))))) : L_X12_map_0 l g h x0 x1  Q := by
  obtain ⟨i1, hb⟩ := hb
  refine wp_aload_n 0 dX12_map_0 rfl rfl ?_
  refine wp_iconst (v := 0) dX12_map_1 (by decide) ?_
  refine wp_putI dX12_map_2 fl_X12_1 (Or.inl rfl) i1 ?_
  refine wp_topH (fun h2 e3 => ?_)
  have hb := hb h2 e3
  refine wp_aload_n 0 dX12_map_5 rfl rfl ?_
  refine wp_iload_n 1 dX12_map_6 rfl rfl ?_
  refine wp_callV (as := [.int x1]) dX12_map_7 cb_X12_isApp lk_X12_340 im_X12_isApp se_X12_isApp rfl (Nat.le_of_ble_eq_true rfl) ⟨by decide, by decide⟩ ⟨Nat.le_refl _, Nat.le_refl _, Nat.le_refl _⟩ i1 rfl (by decide) hb (fun r0 h5 hb => ?_)
  obtain ⟨r6, rfl, hb⟩ := hb
  refine wp_if_ne (tgt := 19) dX12_map_10 (by decide) (fun c7 => ?_) (fun c7 => ?_)
  · have hb := hb.1 c7
    refine wp_aload_n 0 dX12_map_19 rfl rfl ?_
    obtain ⟨i8, hb⟩ := hb
    refine wp_getR dX12_map_20 fl_X12_21 i1 (i8.ne (by decide)) ?_
    refine wp_iload_n 1 dX12_map_23 rfl rfl ?_
    obtain ⟨b9, hb⟩ := hb
    obtain ⟨i10, hb⟩ := hb
    refine wp_aaload25 dX12_map_24 i8 b9 (i10.ne (by decide)) ?_
    refine wp_topr (fun v11 e12 => ?_)
    have hb := hb v11 e12
    have i13 : Is 194 v11 9 := by rw [e12]; exact i10
    refine wp_astore_n (lv2 := [(2, .ref v11), (0, .ref x0), (1, .int x1)]) dX12_map_25 rfl (by decide) rfl ?_
    refine wp_aload_n 1 dX12_map_26 rfl rfl ?_
    refine wp_iconst (v := 0) dX12_map_27 (by decide) ?_
    refine wp_putI dX12_map_28 fl_X12_334 (Or.inl rfl) i1 ?_
    refine wp_topH (fun h14 e15 => ?_)
    have hb := hb h14 e15
    refine wp_aload_n 1 dX12_map_31 rfl rfl ?_
    refine wp_iconst (v := (-1)) dX12_map_32 (by decide) ?_
    refine wp_putI dX12_map_33 fl_X12_62 (Or.inl rfl) i1 ?_
    refine wp_topH (fun h16 e17 => ?_)
    have hb := hb h16 e17
    refine wp_aload_n 1 dX12_map_36 rfl rfl ?_
    refine wp_callV (as := []) dX12_map_37 cb_X12_begins lk_X12_324 im_X12_begins se_X12_begins rfl (Nat.le_of_ble_eq_true rfl) ⟨by decide, by decide⟩ ⟨Nat.le_refl _, Nat.le_refl _, Nat.le_refl _⟩ i1 rfl (by decide) hb (fun r0 h19 hb => ?_)
    obtain ⟨rfl, hb⟩ := hb
    refine wp_aload_n 1 dX12_map_40 rfl rfl ?_
    refine wp_iconst (v := (-1)) dX12_map_41 (by decide) ?_
    refine wp_iconst (v := (-1)) dX12_map_42 (by decide) ?_
    refine wp_callV (as := [.int (-1), .int (-1)]) dX12_map_43 cb_X12_meets lk_X12_390 im_X12_meets se_X12_meets rfl (Nat.le_of_ble_eq_true rfl) ⟨by decide, by decide⟩ ⟨Nat.le_refl _, Nat.le_refl _, Nat.le_refl _⟩ i1 rfl (by decide) hb (fun r0 h21 hb => ?_)
    obtain ⟨rfl, hb⟩ := hb
    refine wp_iconst (v := 0) dX12_map_46 (by decide) ?_
    refine wp_istore_n (lv2 := [(3, .int 0), (2, .ref v11), (0, .ref x0), (1, .int x1)]) dX12_map_47 rfl (by decide) rfl ?_
    exact wp_sub [2, 3, 1, 0] rfl hb
  · have hb := hb.2 c7
    refine wp_aload_n 0 dX12_map_13 rfl rfl ?_
    refine wp_iconst (v := 1) dX12_map_14 (by decide) ?_
    refine wp_callV (as := [.int 1]) dX12_map_15 cb_X12_refused lk_X12_316 im_X12_refused se_X12_refused rfl (Nat.le_of_ble_eq_true rfl) ⟨by decide, by decide⟩ ⟨Nat.le_refl _, Nat.le_refl _, Nat.le_refl _⟩ i1 rfl (by decide) hb (fun r0 h23 hb => ?_)
    obtain ⟨r24, rfl, hb⟩ := hb
    exact wp_iret rfl dX12_map_18 ⟨_, rfl, hb⟩
set_option maxRecDepth 100000 in
set_option maxHeartbeats 4000000 in
theorem s_X12_map_48 {l : Launch} {g : AG} {h : AH} {x0 : Nat} {x1 : Int32} {x2 : Nat} {x3 : Int32}  {Q : Int32 → AH → Prop} (hb : (Is 194 x0 11) ∧ ( ((h.1 x0 25 ≤ x3 → (∀ h27 : AH, h27 = ax_setI h x0 24 x1 → ( C_X12_parts l g h27 x0 (fun h30 => ( C_X12_done l g h30 x0 (h30.1 x0 25) (fun r33 h32 => ( Q r33 h32))))))) ∧ (¬ (h.1 x0 25 ≤ x3) → ((Is 194 (h.2.2 x0 26) 21) ∧ ( (vp_in x3 (ax_s (h.2.2 x0 26)).2) ∧ ( (Is 194 (h.2.2 x0 27) 21) ∧ ( (vp_in x3 (ax_s (h.2.2 x0 27)).2) ∧ ( C_X12_unpack l g h x0 (h.2.1 (h.2.2 x0 26) x3.toNatClampNeg) (h.2.1 (h.2.2 x0 27) x3.toNatClampNeg) (fun h39 => ( (Is 194 (h39.2.2 x0 31) 20) ∧ ( (Is 194 x2 9) ∧ ( C_X12_possible l g h39 x0 x2 (fun r44 h43 => ( (vp_in x3 (ax_s (h39.2.2 x0 31)).2) ∧ ( ∀ h46 : AH, h46 = ax_setI h43 (h39.2.2 x0 31) x3.toNatClampNeg r44 → ( L_X12_map_86 l g h46 x0 x1 x2 x3 0  Q))))))))))))))))) : L_X12_map_48 l g h x0 x1 x2 x3  Q := by
  refine wp_iload_n 3 dX12_map_48 rfl rfl ?_
  obtain ⟨i25, hb⟩ := hb
  refine wp_aload_n 0 dX12_map_49 rfl rfl ?_
  refine wp_getI dX12_map_50 fl_X12_334 i25 ?_
  refine wp_icmp_ge (tgt := 233) dX12_map_53 (by decide) (fun c26 => ?_) (fun c26 => ?_)
  · have hb := hb.1 c26
    refine wp_aload_n 0 dX12_map_233 rfl rfl ?_
    refine wp_iload_n 1 dX12_map_234 rfl rfl ?_
    refine wp_putI dX12_map_235 fl_X12_62 (Or.inl rfl) i25 ?_
    refine wp_topH (fun h27 e28 => ?_)
    have hb := hb h27 e28
    refine wp_aload_n 0 dX12_map_238 rfl rfl ?_
    refine wp_callV (as := []) dX12_map_239 cb_X12_parts lk_X12_398 im_X12_parts se_X12_parts rfl (Nat.le_of_ble_eq_true rfl) ⟨by decide, by decide⟩ ⟨Nat.le_refl _, Nat.le_refl _, Nat.le_refl _⟩ i25 rfl (by decide) hb (fun r0 h30 hb => ?_)
    obtain ⟨rfl, hb⟩ := hb
    refine wp_aload_n 0 dX12_map_242 rfl rfl ?_
    refine wp_aload_n 0 dX12_map_243 rfl rfl ?_
    refine wp_getI dX12_map_244 fl_X12_334 i25 ?_
    refine wp_callV (as := [.int (h30.1 x0 25)]) dX12_map_247 cb_X12_done lk_X12_337 im_X12_done se_X12_done rfl (Nat.le_of_ble_eq_true rfl) ⟨by decide, by decide⟩ ⟨Nat.le_refl _, Nat.le_refl _, Nat.le_refl _⟩ i25 rfl (by decide) hb (fun r0 h32 hb => ?_)
    obtain ⟨r33, rfl, hb⟩ := hb
    exact wp_iret rfl dX12_map_250 ⟨_, rfl, hb⟩
  · have hb := hb.2 c26
    refine wp_aload_n 0 dX12_map_56 rfl rfl ?_
    refine wp_aload_n 0 dX12_map_57 rfl rfl ?_
    obtain ⟨i34, hb⟩ := hb
    refine wp_getR dX12_map_58 fl_X12_65 i25 (i34.ne (by decide)) ?_
    refine wp_iload_n 3 dX12_map_61 rfl rfl ?_
    obtain ⟨b35, hb⟩ := hb
    refine wp_laload dX12_map_62 i34 b35 ?_
    refine wp_aload_n 0 dX12_map_63 rfl rfl ?_
    obtain ⟨i36, hb⟩ := hb
    refine wp_getR dX12_map_64 fl_X12_68 i25 (i36.ne (by decide)) ?_
    refine wp_iload_n 3 dX12_map_67 rfl rfl ?_
    obtain ⟨b37, hb⟩ := hb
    refine wp_laload dX12_map_68 i36 b37 ?_
    refine wp_callV (as := [.long (h.2.1 (h.2.2 x0 26) x3.toNatClampNeg), .long (h.2.1 (h.2.2 x0 27) x3.toNatClampNeg)]) dX12_map_69 cb_X12_unpack lk_X12_377 im_X12_unpack se_X12_unpack rfl (Nat.le_of_ble_eq_true rfl) ⟨by decide, by decide⟩ ⟨Nat.le_refl _, Nat.le_refl _, Nat.le_refl _⟩ i25 rfl (by decide) hb (fun r0 h39 hb => ?_)
    obtain ⟨rfl, hb⟩ := hb
    refine wp_aload_n 0 dX12_map_72 rfl rfl ?_
    obtain ⟨i40, hb⟩ := hb
    refine wp_getR dX12_map_73 fl_X12_80 i25 (i40.ne (by decide)) ?_
    refine wp_iload_n 3 dX12_map_76 rfl rfl ?_
    refine wp_aload_n 0 dX12_map_77 rfl rfl ?_
    obtain ⟨i41, hb⟩ := hb
    refine wp_aload_n 2 dX12_map_78 rfl rfl ?_
    refine wp_callV (as := [.ref x2]) dX12_map_79 cb_X12_possible lk_X12_381 im_X12_possible se_X12_possible rfl (Nat.le_of_ble_eq_true rfl) ⟨by decide, by decide⟩ ⟨Nat.le_refl _, Nat.le_refl _, Nat.le_refl _⟩ i25 rfl (by decide) hb (fun r0 h43 hb => ?_)
    obtain ⟨r44, rfl, hb⟩ := hb
    obtain ⟨b45, hb⟩ := hb
    refine wp_iastore dX12_map_82 i40 b45 ?_
    refine wp_topH (fun h46 e47 => ?_)
    have hb := hb h46 e47
    refine wp_iconst (v := 0) dX12_map_83 (by decide) ?_
    refine wp_istore (lv2 := [(4, .int 0), (0, .ref x0), (1, .int x1), (2, .ref x2), (3, .int x3)]) dX12_map_84 (by decide) rfl ?_
    exact wp_sub [1, 2, 3, 4, 0] rfl hb
set_option maxRecDepth 100000 in
set_option maxHeartbeats 4000000 in
theorem s_X12_map_86 {l : Launch} {g : AG} {h : AH} {x0 : Nat} {x1 : Int32} {x2 : Nat} {x3 : Int32} {x4 : Int32}  {Q : Int32 → AH → Prop} (hb : ((27 ≤ x4 → (∀ v49 : Int32, v49 = x3 + (1) → ( L_X12_map_48 l g h x0 x1 x2 v49  Q))) ∧ (¬ (27 ≤ x4) → ((Is 194 x0 11) ∧ ( (Is 194 (h.2.2 x0 35) 20) ∧ ( (vp_in ((27 * x3) + x4) (ax_s (h.2.2 x0 35)).2) ∧ ( ∀ h54 : AH, h54 = ax_setI h (h.2.2 x0 35) ((27 * x3) + x4).toNatClampNeg (-2) → ( (Is 194 (h54.2.2 x0 31) 20) ∧ ( (vp_in x3 (ax_s (h54.2.2 x0 31)).2) ∧ ( ∀ v58 : Int32, v58 = (jishr (h54.1 (h54.2.2 x0 31) x3.toNatClampNeg) x4) → ( ((¬ v58 &&& 1 = 0 → ((Is 194 (h54.2.2 x0 26) 21) ∧ ( (vp_in x3 (ax_s (h54.2.2 x0 26)).2) ∧ ( (Is 194 (h54.2.2 x0 27) 21) ∧ ( (vp_in x3 (ax_s (h54.2.2 x0 27)).2) ∧ ( C_X12_unpack l g h54 x0 (h54.2.1 (h54.2.2 x0 26) x3.toNatClampNeg) (h54.2.1 (h54.2.2 x0 27) x3.toNatClampNeg) (fun h66 => ( (Is 194 x2 9) ∧ ( C_X12_acts l g h66 x0 x2 x4 (fun h69 => ( C_X12_packed l g h69 x0 (fun r72 h71 => ( C_X12_packedVars l g h71 x0 (fun r75 h74 => ( C_X12_stateOf l g h74 x0 r72 r75 (fun r78 h77 => ( ((¬ r78 = (-1) → (L_X12_map_188 l g h77 x0 x1 x2 x3 x4 r78  Q)) ∧ (r78 = (-1) → (((¬ h77.1 x0 25 = 400 → (L_X12_map_188 l g h77 x0 x1 x2 x3 x4 r78  Q)) ∧ (h77.1 x0 25 = 400 → (∀ h81 : AH, h81 = ax_setI h77 x0 25 0 → ( C_X12_refused l g h81 x0 5 (fun r85 h84 => ( Q r85 h84)))))))))))))))))))))))))) ∧ (v58 &&& 1 = 0 → (∀ v86 : Int32, v86 = x4 + (1) → ( L_X12_map_86 l g h54 x0 x1 x2 x3 v86  Q))))))))))))))) : L_X12_map_86 l g h x0 x1 x2 x3 x4  Q := by
  refine wp_iload 4 dX12_map_86 rfl ?_
  refine wp_bipush (v := 27) dX12_map_88 (by decide) ?_
  refine wp_icmp_ge (tgt := 227) dX12_map_90 (by decide) (fun c48 => ?_) (fun c48 => ?_)
  · have hb := hb.1 c48
    obtain ⟨v49, e50⟩ : ∃ y : Int32, y = x3 + (1) := ⟨_, rfl⟩
    have hb := hb v49 e50
    refine wp_iinc (v := v49) (lv2 := [(3, .int v49), (0, .ref x0), (1, .int x1), (2, .ref x2), (4, .int x4)]) 3 dX12_map_227 rfl (by rw [e50]; rfl) (by decide) rfl ?_
    refine wp_goto (tgt := 48) dX12_map_230 (by decide) ?_
    exact wp_sub [1, 2, 3, 0] rfl hb
  · have hb := hb.2 c48
    obtain ⟨i51, hb⟩ := hb
    refine wp_aload_n 0 dX12_map_93 rfl rfl ?_
    obtain ⟨i52, hb⟩ := hb
    refine wp_getR dX12_map_94 fl_X12_92 i51 (i52.ne (by decide)) ?_
    refine wp_bipush (v := 27) dX12_map_97 (by decide) ?_
    refine wp_iload_n 3 dX12_map_99 rfl rfl ?_
    refine wp_imul dX12_map_100 ?_
    refine wp_iload 4 dX12_map_101 rfl ?_
    refine wp_iadd dX12_map_103 ?_
    refine wp_bipush (v := (-2)) dX12_map_104 (by decide) ?_
    obtain ⟨b53, hb⟩ := hb
    refine wp_iastore dX12_map_106 i52 b53 ?_
    refine wp_topH (fun h54 e55 => ?_)
    have hb := hb h54 e55
    refine wp_aload_n 0 dX12_map_107 rfl rfl ?_
    obtain ⟨i56, hb⟩ := hb
    refine wp_getR dX12_map_108 fl_X12_80 i51 (i56.ne (by decide)) ?_
    refine wp_iload_n 3 dX12_map_111 rfl rfl ?_
    obtain ⟨b57, hb⟩ := hb
    refine wp_iaload dX12_map_112 i56 b57 ?_
    refine wp_iload 4 dX12_map_113 rfl ?_
    refine wp_ishr dX12_map_115 ?_
    refine wp_topi (fun v58 e59 => ?_)
    have hb := hb v58 e59
    refine wp_iconst (v := 1) dX12_map_116 (by decide) ?_
    refine wp_iand dX12_map_117 ?_
    refine wp_if_ne (tgt := 124) dX12_map_118 (by decide) (fun c60 => ?_) (fun c60 => ?_)
    · have hb := hb.1 c60
      refine wp_aload_n 0 dX12_map_124 rfl rfl ?_
      refine wp_aload_n 0 dX12_map_125 rfl rfl ?_
      obtain ⟨i61, hb⟩ := hb
      refine wp_getR dX12_map_126 fl_X12_65 i51 (i61.ne (by decide)) ?_
      refine wp_iload_n 3 dX12_map_129 rfl rfl ?_
      obtain ⟨b62, hb⟩ := hb
      refine wp_laload dX12_map_130 i61 b62 ?_
      refine wp_aload_n 0 dX12_map_131 rfl rfl ?_
      obtain ⟨i63, hb⟩ := hb
      refine wp_getR dX12_map_132 fl_X12_68 i51 (i63.ne (by decide)) ?_
      refine wp_iload_n 3 dX12_map_135 rfl rfl ?_
      obtain ⟨b64, hb⟩ := hb
      refine wp_laload dX12_map_136 i63 b64 ?_
      refine wp_callV (as := [.long (h54.2.1 (h54.2.2 x0 26) x3.toNatClampNeg), .long (h54.2.1 (h54.2.2 x0 27) x3.toNatClampNeg)]) dX12_map_137 cb_X12_unpack lk_X12_377 im_X12_unpack se_X12_unpack rfl (Nat.le_of_ble_eq_true rfl) ⟨by decide, by decide⟩ ⟨Nat.le_refl _, Nat.le_refl _, Nat.le_refl _⟩ i51 rfl (by decide) hb (fun r0 h66 hb => ?_)
      obtain ⟨rfl, hb⟩ := hb
      refine wp_aload_n 0 dX12_map_140 rfl rfl ?_
      obtain ⟨i67, hb⟩ := hb
      refine wp_aload_n 2 dX12_map_141 rfl rfl ?_
      refine wp_iload 4 dX12_map_142 rfl ?_
      refine wp_callV (as := [.ref x2, .int x4]) dX12_map_144 cb_X12_acts lk_X12_384 im_X12_acts se_X12_acts rfl (Nat.le_of_ble_eq_true rfl) ⟨by decide, by decide⟩ ⟨Nat.le_refl _, Nat.le_refl _, Nat.le_refl _⟩ i51 rfl (by decide) hb (fun r0 h69 hb => ?_)
      obtain ⟨rfl, hb⟩ := hb
      refine wp_aload_n 0 dX12_map_147 rfl rfl ?_
      refine wp_aload_n 0 dX12_map_148 rfl rfl ?_
      refine wp_callV (as := []) dX12_map_149 cb_X12_packed lk_X12_327 im_X12_packed se_X12_packed rfl (Nat.le_of_ble_eq_true rfl) ⟨by decide, by decide⟩ ⟨Nat.le_refl _, Nat.le_refl _, Nat.le_refl _⟩ i51 rfl (by decide) hb (fun r0 h71 hb => ?_)
      obtain ⟨r72, rfl, hb⟩ := hb
      refine wp_aload_n 0 dX12_map_152 rfl rfl ?_
      refine wp_callV (as := []) dX12_map_153 cb_X12_packedVars lk_X12_331 im_X12_packedVars se_X12_packedVars rfl (Nat.le_of_ble_eq_true rfl) ⟨by decide, by decide⟩ ⟨Nat.le_refl _, Nat.le_refl _, Nat.le_refl _⟩ i51 rfl (by decide) hb (fun r0 h74 hb => ?_)
      obtain ⟨r75, rfl, hb⟩ := hb
      refine wp_callV (as := [.long r72, .long r75]) dX12_map_156 cb_X12_stateOf lk_X12_394 im_X12_stateOf se_X12_stateOf rfl (Nat.le_of_ble_eq_true rfl) ⟨by decide, by decide⟩ ⟨Nat.le_refl _, Nat.le_refl _, Nat.le_refl _⟩ i51 rfl (by decide) hb (fun r0 h77 hb => ?_)
      obtain ⟨r78, rfl, hb⟩ := hb
      refine wp_istore (lv2 := [(5, .int r78), (0, .ref x0), (1, .int x1), (2, .ref x2), (3, .int x3), (4, .int x4)]) dX12_map_159 (by decide) rfl ?_
      refine wp_iload 0 dX12_map_161 rfl ?_
      refine wp_iconst (v := (-1)) dX12_map_163 (by decide) ?_
      refine wp_icmp_ne (tgt := 188) dX12_map_164 (by decide) (fun c79 => ?_) (fun c79 => ?_)
      · have hb := hb.1 c79
        exact wp_sub [1, 2, 3, 4, 5, 0] rfl hb
      · have hb := hb.2 c79
        refine wp_aload_n 1 dX12_map_167 rfl rfl ?_
        refine wp_getI dX12_map_168 fl_X12_334 i51 ?_
        refine wp_sipush (v := 400) dX12_map_171 (by decide) ?_
        refine wp_icmp_ne (tgt := 188) dX12_map_174 (by decide) (fun c80 => ?_) (fun c80 => ?_)
        · have hb := hb.1 c80
          exact wp_sub [1, 2, 3, 4, 5, 0] rfl hb
        · have hb := hb.2 c80
          refine wp_aload_n 1 dX12_map_177 rfl rfl ?_
          refine wp_iconst (v := 0) dX12_map_178 (by decide) ?_
          refine wp_putI dX12_map_179 fl_X12_334 (Or.inl rfl) i51 ?_
          refine wp_topH (fun h81 e82 => ?_)
          have hb := hb h81 e82
          refine wp_aload_n 1 dX12_map_182 rfl rfl ?_
          refine wp_iconst (v := 5) dX12_map_183 (by decide) ?_
          refine wp_callV (as := [.int 5]) dX12_map_184 cb_X12_refused lk_X12_316 im_X12_refused se_X12_refused rfl (Nat.le_of_ble_eq_true rfl) ⟨by decide, by decide⟩ ⟨Nat.le_refl _, Nat.le_refl _, Nat.le_refl _⟩ i51 rfl (by decide) hb (fun r0 h84 hb => ?_)
          obtain ⟨r85, rfl, hb⟩ := hb
          exact wp_iret rfl dX12_map_187 ⟨_, rfl, hb⟩
    · have hb := hb.2 c60
      refine wp_goto (tgt := 221) dX12_map_121 (by decide) ?_
      obtain ⟨v86, e87⟩ : ∃ y : Int32, y = x4 + (1) := ⟨_, rfl⟩
      have hb := hb v86 e87
      refine wp_iinc (v := v86) (lv2 := [(4, .int v86), (0, .ref x0), (1, .int x1), (2, .ref x2), (3, .int x3)]) 4 dX12_map_221 rfl (by rw [e87]; rfl) (by decide) rfl ?_
      refine wp_goto (tgt := 86) dX12_map_224 (by decide) ?_
      exact wp_sub [1, 2, 3, 4, 0] rfl hb
set_option maxRecDepth 100000 in
set_option maxHeartbeats 4000000 in
theorem s_X12_map_188 {l : Launch} {g : AG} {h : AH} {x0 : Nat} {x1 : Int32} {x2 : Nat} {x3 : Int32} {x4 : Int32} {x5 : Int32}  {Q : Int32 → AH → Prop} (hb : ((¬ x5 = (-1) → (L_X12_map_207 l g h x0 x1 x2 x3 x4 x5  Q)) ∧ (x5 = (-1) → ((Is 194 x0 11) ∧ ( ∀ v90 : Int32, v90 = (h.1 x0 25) → ( C_X12_meets l g h x0 x3 x4 (fun h93 => ( L_X12_map_207 l g h93 x0 x1 x2 x3 x4 v90  Q)))))))) : L_X12_map_188 l g h x0 x1 x2 x3 x4 x5  Q := by
  refine wp_iload 5 dX12_map_188 rfl ?_
  refine wp_iconst (v := (-1)) dX12_map_190 (by decide) ?_
  refine wp_icmp_ne (tgt := 207) dX12_map_191 (by decide) (fun c88 => ?_) (fun c88 => ?_)
  · have hb := hb.1 c88
    exact hb
  · have hb := hb.2 c88
    obtain ⟨i89, hb⟩ := hb
    refine wp_aload_n 0 dX12_map_194 rfl rfl ?_
    refine wp_getI dX12_map_195 fl_X12_334 i89 ?_
    refine wp_topi (fun v90 e91 => ?_)
    have hb := hb v90 e91
    refine wp_istore (lv2 := [(5, .int v90), (0, .ref x0), (1, .int x1), (2, .ref x2), (3, .int x3), (4, .int x4)]) dX12_map_198 (by decide) rfl ?_
    refine wp_aload_n 1 dX12_map_200 rfl rfl ?_
    refine wp_iload_n 4 dX12_map_201 rfl rfl ?_
    refine wp_iload 5 dX12_map_202 rfl ?_
    refine wp_callV (as := [.int x3, .int x4]) dX12_map_204 cb_X12_meets lk_X12_390 im_X12_meets se_X12_meets rfl (Nat.le_of_ble_eq_true rfl) ⟨by decide, by decide⟩ ⟨Nat.le_refl _, Nat.le_refl _, Nat.le_refl _⟩ i89 rfl (by decide) hb (fun r0 h93 hb => ?_)
    obtain ⟨rfl, hb⟩ := hb
    exact wp_sub [1, 2, 3, 4, 5, 0] rfl hb
set_option maxRecDepth 100000 in
set_option maxHeartbeats 4000000 in
theorem s_X12_map_207 {l : Launch} {g : AG} {h : AH} {x0 : Nat} {x1 : Int32} {x2 : Nat} {x3 : Int32} {x4 : Int32} {x5 : Int32}  {Q : Int32 → AH → Prop} (hb : (Is 194 x0 11) ∧ ( (Is 194 (h.2.2 x0 35) 20) ∧ ( (vp_in ((27 * x3) + x4) (ax_s (h.2.2 x0 35)).2) ∧ ( ∀ h97 : AH, h97 = ax_setI h (h.2.2 x0 35) ((27 * x3) + x4).toNatClampNeg x5 → ( ∀ v99 : Int32, v99 = x4 + (1) → ( L_X12_map_86 l g h97 x0 x1 x2 x3 v99  Q)))))) : L_X12_map_207 l g h x0 x1 x2 x3 x4 x5  Q := by
  obtain ⟨i94, hb⟩ := hb
  refine wp_aload_n 0 dX12_map_207 rfl rfl ?_
  obtain ⟨i95, hb⟩ := hb
  refine wp_getR dX12_map_208 fl_X12_92 i94 (i95.ne (by decide)) ?_
  refine wp_bipush (v := 27) dX12_map_211 (by decide) ?_
  refine wp_iload_n 3 dX12_map_213 rfl rfl ?_
  refine wp_imul dX12_map_214 ?_
  refine wp_iload 4 dX12_map_215 rfl ?_
  refine wp_iadd dX12_map_217 ?_
  refine wp_iload 5 dX12_map_218 rfl ?_
  obtain ⟨b96, hb⟩ := hb
  refine wp_iastore dX12_map_220 i95 b96 ?_
  refine wp_topH (fun h97 e98 => ?_)
  have hb := hb h97 e98
  obtain ⟨v99, e100⟩ : ∃ y : Int32, y = x4 + (1) := ⟨_, rfl⟩
  have hb := hb v99 e100
  refine wp_iinc (v := v99) (lv2 := [(4, .int v99), (0, .ref x0), (1, .int x1), (2, .ref x2), (3, .int x3), (5, .int x5)]) 4 dX12_map_221 rfl (by rw [e100]; rfl) (by decide) rfl ?_
  refine wp_goto (tgt := 86) dX12_map_224 (by decide) ?_
  exact wp_sub [1, 2, 3, 4, 0] rfl hb
theorem c_X12_map {l : Launch} {g : AG} {h : AH} {x0 : Nat} {x1 : Int32}  {Q : Int32 → AH → Prop} (hb : L_X12_map_0 l g h x0 x1  Q) : C_X12_map l g h x0 x1  Q := ax_met rfl rfl (Nat.le_of_ble_eq_true rfl) hb
def C_X12_isState (l : Launch) (g : AG) (h : AH) (x0 : Nat) (x1 : Int32)  (Q : Int32 → AH → Prop) : Prop := Ct l g mX12_isState 0 0 194 194 h [.ref x0, .int x1] (ax_QI Q)
def L_X12_isState_0 (l : Launch) (g : AG) (h : AH) (x0 : Nat) (x1 : Int32)  (Q : Int32 → AH → Prop) : Prop := Wp l g mX12_isState 0 0 194 194 194 0 [(0, .ref x0), (1, .int x1)] [] h (FM g 194 194 (ax_QI Q))
set_option maxRecDepth 100000 in
set_option maxHeartbeats 4000000 in
theorem s_X12_isState_0 {l : Launch} {g : AG} {h : AH} {x0 : Nat} {x1 : Int32}  {Q : Int32 → AH → Prop} (hb : (Is 194 x0 11) ∧ ( ((h.1 x0 24 = (-1) → (Q 0 h)) ∧ (¬ (h.1 x0 24 = (-1)) → (((x1 < 0 → (Q 0 h)) ∧ (¬ (x1 < 0) → (((h.1 x0 25 ≤ x1 → (Q 0 h)) ∧ (¬ (h.1 x0 25 ≤ x1) → (Q 1 h))))))))))) : L_X12_isState_0 l g h x0 x1  Q := by
  obtain ⟨i1, hb⟩ := hb
  refine wp_aload_n 0 dX12_isState_0 rfl rfl ?_
  refine wp_getI dX12_isState_1 fl_X12_62 i1 ?_
  refine wp_iconst (v := (-1)) dX12_isState_4 (by decide) ?_
  refine wp_icmp_eq (tgt := 24) dX12_isState_5 (by decide) (fun c2 => ?_) (fun c2 => ?_)
  · have hb := hb.1 c2
    refine wp_iconst (v := 0) dX12_isState_24 (by decide) ?_
    exact wp_zret rfl dX12_isState_25 (Or.inl rfl) ⟨_, rfl, hb⟩
  · have hb := hb.2 c2
    refine wp_iload_n 1 dX12_isState_8 rfl rfl ?_
    refine wp_if_lt (tgt := 24) dX12_isState_9 (by decide) (fun c3 => ?_) (fun c3 => ?_)
    · have hb := hb.1 c3
      refine wp_iconst (v := 0) dX12_isState_24 (by decide) ?_
      exact wp_zret rfl dX12_isState_25 (Or.inl rfl) ⟨_, rfl, hb⟩
    · have hb := hb.2 c3
      refine wp_iload_n 1 dX12_isState_12 rfl rfl ?_
      refine wp_aload_n 0 dX12_isState_13 rfl rfl ?_
      refine wp_getI dX12_isState_14 fl_X12_334 i1 ?_
      refine wp_icmp_ge (tgt := 24) dX12_isState_17 (by decide) (fun c4 => ?_) (fun c4 => ?_)
      · have hb := hb.1 c4
        refine wp_iconst (v := 0) dX12_isState_24 (by decide) ?_
        exact wp_zret rfl dX12_isState_25 (Or.inl rfl) ⟨_, rfl, hb⟩
      · have hb := hb.2 c4
        refine wp_iconst (v := 1) dX12_isState_20 (by decide) ?_
        refine wp_goto (tgt := 25) dX12_isState_21 (by decide) ?_
        exact wp_zret rfl dX12_isState_25 (Or.inr rfl) ⟨_, rfl, hb⟩
theorem c_X12_isState {l : Launch} {g : AG} {h : AH} {x0 : Nat} {x1 : Int32}  {Q : Int32 → AH → Prop} (hb : L_X12_isState_0 l g h x0 x1  Q) : C_X12_isState l g h x0 x1  Q := ax_met rfl rfl (Nat.le_of_ble_eq_true rfl) hb
def C_X12_met (l : Launch) (g : AG) (h : AH) (x0 : Nat) (x1 : Int32) (x2 : Int32)  (Q : Int32 → AH → Prop) : Prop := Ct l g mX12_met 1 26 194 194 h [.ref x0, .int x1, .int x2] (ax_QI Q)
def L_X12_met_0 (l : Launch) (g : AG) (h : AH) (x0 : Nat) (x1 : Int32) (x2 : Int32)  (Q : Int32 → AH → Prop) : Prop := Wp l g mX12_met 1 26 194 194 194 0 [(0, .ref x0), (1, .int x1), (2, .int x2)] [] h (FM g 194 194 (ax_QI Q))
set_option maxRecDepth 100000 in
set_option maxHeartbeats 4000000 in
theorem s_X12_met_0 {l : Launch} {g : AG} {h : AH} {x0 : Nat} {x1 : Int32} {x2 : Int32}  {Q : Int32 → AH → Prop} (hb : (Is 194 x0 11) ∧ ( ∀ h2 : AH, h2 = ax_setI h x0 0 0 → ( C_X12_isState l g h2 x0 x1 (fun r6 h5 => ( ((¬ r6 = 0 → ((Is 194 (h5.2.2 x0 26) 21) ∧ ( (vp_in x1 (ax_s (h5.2.2 x0 26)).2) ∧ ( (Is 194 (h5.2.2 x0 27) 21) ∧ ( (vp_in x1 (ax_s (h5.2.2 x0 27)).2) ∧ ( C_X12_unpack l g h5 x0 (h5.2.1 (h5.2.2 x0 26) x1.toNatClampNeg) (h5.2.1 (h5.2.2 x0 27) x1.toNatClampNeg) (fun h13 => ( ((x2 = 0 → (Q (h13.1 x0 19) h13)) ∧ (¬ x2 = 0 → (((x2 = 1 → (Q (h13.1 x0 20) h13)) ∧ (¬ x2 = 1 → (((x2 = 2 → (((h13.1 x0 20 ≤ 0 → (Q (-1) h13)) ∧ (¬ (h13.1 x0 20 ≤ 0) → ((Is 194 (h13.2.2 x0 21) 20) ∧ ( (vp_in ((h13.1 x0 20) - 1) (ax_s (h13.2.2 x0 21)).2) ∧ ( ∀ v20 : Int32, v20 = (h13.1 (h13.2.2 x0 21) ((h13.1 x0 20) - 1).toNatClampNeg) → ( Q v20 h13)))))))) ∧ (¬ x2 = 2 → (((x2 = 3 → ((Is 194 (h13.2.2 x0 30) 20) ∧ ( (vp_in x1 (ax_s (h13.2.2 x0 30)).2) ∧ ( Q (h13.1 (h13.2.2 x0 30) x1.toNatClampNeg) h13)))) ∧ (¬ x2 = 3 → (((x2 = 4 → ((Is 194 (h13.2.2 x0 31) 20) ∧ ( (vp_in x1 (ax_s (h13.2.2 x0 31)).2) ∧ ( C_X12_bits l g h13 (h13.1 (h13.2.2 x0 31) x1.toNatClampNeg) (fun r30 h29 => ( Q r30 h29)))))) ∧ (¬ x2 = 4 → (((x2 = 5 → ((Is 194 (h13.2.2 x0 32) 20) ∧ ( (vp_in x1 (ax_s (h13.2.2 x0 32)).2) ∧ ( Q (h13.1 (h13.2.2 x0 32) x1.toNatClampNeg) h13)))) ∧ (¬ x2 = 5 → (Q (-1) h13)))))))))))))))))))))))))) ∧ (r6 = 0 → (Q (-1) h5)))))))) : L_X12_met_0 l g h x0 x1 x2  Q := by
  obtain ⟨i1, hb⟩ := hb
  refine wp_aload_n 0 dX12_met_0 rfl rfl ?_
  refine wp_iconst (v := 0) dX12_met_1 (by decide) ?_
  refine wp_putI dX12_met_2 fl_X12_1 (Or.inl rfl) i1 ?_
  refine wp_topH (fun h2 e3 => ?_)
  have hb := hb h2 e3
  refine wp_aload_n 0 dX12_met_5 rfl rfl ?_
  refine wp_iload_n 1 dX12_met_6 rfl rfl ?_
  refine wp_callV (as := [.int x1]) dX12_met_7 cb_X12_isState lk_X12_412 im_X12_isState se_X12_isState rfl (Nat.le_of_ble_eq_true rfl) ⟨by decide, by decide⟩ ⟨Nat.le_refl _, Nat.le_refl _, Nat.le_refl _⟩ i1 rfl (by decide) hb (fun r0 h5 hb => ?_)
  obtain ⟨r6, rfl, hb⟩ := hb
  refine wp_if_ne (tgt := 15) dX12_met_10 (by decide) (fun c7 => ?_) (fun c7 => ?_)
  · have hb := hb.1 c7
    refine wp_aload_n 0 dX12_met_15 rfl rfl ?_
    refine wp_aload_n 0 dX12_met_16 rfl rfl ?_
    obtain ⟨i8, hb⟩ := hb
    refine wp_getR dX12_met_17 fl_X12_65 i1 (i8.ne (by decide)) ?_
    refine wp_iload_n 1 dX12_met_20 rfl rfl ?_
    obtain ⟨b9, hb⟩ := hb
    refine wp_laload dX12_met_21 i8 b9 ?_
    refine wp_aload_n 0 dX12_met_22 rfl rfl ?_
    obtain ⟨i10, hb⟩ := hb
    refine wp_getR dX12_met_23 fl_X12_68 i1 (i10.ne (by decide)) ?_
    refine wp_iload_n 1 dX12_met_26 rfl rfl ?_
    obtain ⟨b11, hb⟩ := hb
    refine wp_laload dX12_met_27 i10 b11 ?_
    refine wp_callV (as := [.long (h5.2.1 (h5.2.2 x0 26) x1.toNatClampNeg), .long (h5.2.1 (h5.2.2 x0 27) x1.toNatClampNeg)]) dX12_met_28 cb_X12_unpack lk_X12_377 im_X12_unpack se_X12_unpack rfl (Nat.le_of_ble_eq_true rfl) ⟨by decide, by decide⟩ ⟨Nat.le_refl _, Nat.le_refl _, Nat.le_refl _⟩ i1 rfl (by decide) hb (fun r0 h13 hb => ?_)
    obtain ⟨rfl, hb⟩ := hb
    refine wp_iload_n 2 dX12_met_31 rfl rfl ?_
    refine wp_case 0 (fun c14 => ?_) (fun c14 => ?_)
    · have hb := hb.1 c14
      refine wp_tableIn (v := 0) (tgt := 72) dX12_met_32 c14 (by decide) (by decide) rfl (by decide) ?_
      refine wp_aload_n 0 dX12_met_72 rfl rfl ?_
      refine wp_getI dX12_met_73 fl_X12_343 i1 ?_
      exact wp_iret rfl dX12_met_76 ⟨_, rfl, hb⟩
    · have hb := hb.2 c14
      refine wp_case 1 (fun c15 => ?_) (fun c15 => ?_)
      · have hb := hb.1 c15
        refine wp_tableIn (v := 1) (tgt := 77) dX12_met_32 c15 (by decide) (by decide) rfl (by decide) ?_
        refine wp_aload_n 0 dX12_met_77 rfl rfl ?_
        refine wp_getI dX12_met_78 fl_X12_346 i1 ?_
        exact wp_iret rfl dX12_met_81 ⟨_, rfl, hb⟩
      · have hb := hb.2 c15
        refine wp_case 2 (fun c16 => ?_) (fun c16 => ?_)
        · have hb := hb.1 c16
          refine wp_tableIn (v := 2) (tgt := 82) dX12_met_32 c16 (by decide) (by decide) rfl (by decide) ?_
          refine wp_aload_n 0 dX12_met_82 rfl rfl ?_
          refine wp_getI dX12_met_83 fl_X12_346 i1 ?_
          refine wp_if_le (tgt := 103) dX12_met_86 (by decide) (fun c17 => ?_) (fun c17 => ?_)
          · have hb := hb.1 c17
            refine wp_iconst (v := (-1)) dX12_met_103 (by decide) ?_
            exact wp_iret rfl dX12_met_104 ⟨_, rfl, hb⟩
          · have hb := hb.2 c17
            refine wp_aload_n 0 dX12_met_89 rfl rfl ?_
            obtain ⟨i18, hb⟩ := hb
            refine wp_getR dX12_met_90 fl_X12_52 i1 (i18.ne (by decide)) ?_
            refine wp_aload_n 0 dX12_met_93 rfl rfl ?_
            refine wp_getI dX12_met_94 fl_X12_346 i1 ?_
            refine wp_iconst (v := 1) dX12_met_97 (by decide) ?_
            refine wp_isub dX12_met_98 ?_
            obtain ⟨b19, hb⟩ := hb
            refine wp_iaload dX12_met_99 i18 b19 ?_
            refine wp_topi (fun v20 e21 => ?_)
            have hb := hb v20 e21
            refine wp_goto (tgt := 104) dX12_met_100 (by decide) ?_
            exact wp_iret rfl dX12_met_104 ⟨_, rfl, hb⟩
        · have hb := hb.2 c16
          refine wp_case 3 (fun c22 => ?_) (fun c22 => ?_)
          · have hb := hb.1 c22
            refine wp_tableIn (v := 3) (tgt := 105) dX12_met_32 c22 (by decide) (by decide) rfl (by decide) ?_
            refine wp_aload_n 0 dX12_met_105 rfl rfl ?_
            obtain ⟨i23, hb⟩ := hb
            refine wp_getR dX12_met_106 fl_X12_77 i1 (i23.ne (by decide)) ?_
            refine wp_iload_n 1 dX12_met_109 rfl rfl ?_
            obtain ⟨b24, hb⟩ := hb
            refine wp_iaload dX12_met_110 i23 b24 ?_
            exact wp_iret rfl dX12_met_111 ⟨_, rfl, hb⟩
          · have hb := hb.2 c22
            refine wp_case 4 (fun c25 => ?_) (fun c25 => ?_)
            · have hb := hb.1 c25
              refine wp_tableIn (v := 4) (tgt := 112) dX12_met_32 c25 (by decide) (by decide) rfl (by decide) ?_
              refine wp_aload_n 0 dX12_met_112 rfl rfl ?_
              obtain ⟨i26, hb⟩ := hb
              refine wp_getR dX12_met_113 fl_X12_80 i1 (i26.ne (by decide)) ?_
              refine wp_iload_n 1 dX12_met_116 rfl rfl ?_
              obtain ⟨b27, hb⟩ := hb
              refine wp_iaload dX12_met_117 i26 b27 ?_
              refine wp_callS (as := [.int (h13.1 (h13.2.2 x0 31) x1.toNatClampNeg)]) dX12_met_118 cb_X12_bits lk_X12_387 st_X12_bits rfl (Nat.le_of_ble_eq_true rfl) ⟨by decide, by decide⟩ ⟨Nat.le_refl _, Nat.le_refl _, Nat.le_refl _⟩ hb (fun r0 h29 hb => ?_)
              obtain ⟨r30, rfl, hb⟩ := hb
              exact wp_iret rfl dX12_met_121 ⟨_, rfl, hb⟩
            · have hb := hb.2 c25
              refine wp_case 5 (fun c31 => ?_) (fun c31 => ?_)
              · have hb := hb.1 c31
                refine wp_tableIn (v := 5) (tgt := 122) dX12_met_32 c31 (by decide) (by decide) rfl (by decide) ?_
                refine wp_aload_n 0 dX12_met_122 rfl rfl ?_
                obtain ⟨i32, hb⟩ := hb
                refine wp_getR dX12_met_123 fl_X12_83 i1 (i32.ne (by decide)) ?_
                refine wp_iload_n 1 dX12_met_126 rfl rfl ?_
                obtain ⟨b33, hb⟩ := hb
                refine wp_iaload dX12_met_127 i32 b33 ?_
                exact wp_iret rfl dX12_met_128 ⟨_, rfl, hb⟩
              · have hb := hb.2 c31
                refine wp_tableOut (tgt := 129) dX12_met_32 (by have zc14 := lv_neT (k := 0) (a := 0) c14 rfl; have zc15 := lv_neT (k := 1) (a := 1) c15 rfl; have zc16 := lv_neT (k := 2) (a := 2) c16 rfl; have zc22 := lv_neT (k := 3) (a := 3) c22 rfl; have zc25 := lv_neT (k := 4) (a := 4) c25 rfl; have zc31 := lv_neT (k := 5) (a := 5) c31 rfl; omega) (by decide) ?_
                refine wp_iconst (v := (-1)) dX12_met_129 (by decide) ?_
                exact wp_iret rfl dX12_met_130 ⟨_, rfl, hb⟩
  · have hb := hb.2 c7
    refine wp_iconst (v := (-1)) dX12_met_13 (by decide) ?_
    exact wp_iret rfl dX12_met_14 ⟨_, rfl, hb⟩
theorem c_X12_met {l : Launch} {g : AG} {h : AH} {x0 : Nat} {x1 : Int32} {x2 : Int32}  {Q : Int32 → AH → Prop} (hb : L_X12_met_0 l g h x0 x1 x2  Q) : C_X12_met l g h x0 x1 x2  Q := ax_met rfl rfl (Nat.le_of_ble_eq_true rfl) hb
def C_X12_leads (l : Launch) (g : AG) (h : AH) (x0 : Nat) (x1 : Int32) (x2 : Int32)  (Q : Int32 → AH → Prop) : Prop := Ct l g mX12_leads 1 21 194 194 h [.ref x0, .int x1, .int x2] (ax_QI Q)
def L_X12_leads_0 (l : Launch) (g : AG) (h : AH) (x0 : Nat) (x1 : Int32) (x2 : Int32)  (Q : Int32 → AH → Prop) : Prop := Wp l g mX12_leads 1 21 194 194 194 0 [(0, .ref x0), (1, .int x1), (2, .int x2)] [] h (FM g 194 194 (ax_QI Q))
set_option maxRecDepth 100000 in
set_option maxHeartbeats 4000000 in
theorem s_X12_leads_0 {l : Launch} {g : AG} {h : AH} {x0 : Nat} {x1 : Int32} {x2 : Int32}  {Q : Int32 → AH → Prop} (hb : (Is 194 x0 11) ∧ ( ∀ h2 : AH, h2 = ax_setI h x0 0 0 → ( C_X12_isState l g h2 x0 x1 (fun r6 h5 => ( ((r6 = 0 → (Q (-1) h5)) ∧ (¬ (r6 = 0) → (C_X12_isAct l g h5 x2 (fun r10 h9 => ( ((r10 = 0 → (Q (-1) h9)) ∧ (¬ (r10 = 0) → ((Is 194 (h9.2.2 x0 35) 20) ∧ ( (vp_in ((27 * x1) + x2) (ax_s (h9.2.2 x0 35)).2) ∧ ( ∀ v14 : Int32, v14 = (h9.1 (h9.2.2 x0 35) ((27 * x1) + x2).toNatClampNeg) → ( Q v14 h9)))))))))))))))) : L_X12_leads_0 l g h x0 x1 x2  Q := by
  obtain ⟨i1, hb⟩ := hb
  refine wp_aload_n 0 dX12_leads_0 rfl rfl ?_
  refine wp_iconst (v := 0) dX12_leads_1 (by decide) ?_
  refine wp_putI dX12_leads_2 fl_X12_1 (Or.inl rfl) i1 ?_
  refine wp_topH (fun h2 e3 => ?_)
  have hb := hb h2 e3
  refine wp_aload_n 0 dX12_leads_5 rfl rfl ?_
  refine wp_iload_n 1 dX12_leads_6 rfl rfl ?_
  refine wp_callV (as := [.int x1]) dX12_leads_7 cb_X12_isState lk_X12_412 im_X12_isState se_X12_isState rfl (Nat.le_of_ble_eq_true rfl) ⟨by decide, by decide⟩ ⟨Nat.le_refl _, Nat.le_refl _, Nat.le_refl _⟩ i1 rfl (by decide) hb (fun r0 h5 hb => ?_)
  obtain ⟨r6, rfl, hb⟩ := hb
  refine wp_if_eq (tgt := 34) dX12_leads_10 (by decide) (fun c7 => ?_) (fun c7 => ?_)
  · have hb := hb.1 c7
    refine wp_iconst (v := (-1)) dX12_leads_34 (by decide) ?_
    exact wp_iret rfl dX12_leads_35 ⟨_, rfl, hb⟩
  · have hb := hb.2 c7
    refine wp_iload_n 2 dX12_leads_13 rfl rfl ?_
    refine wp_callS (as := [.int x2]) dX12_leads_14 cb_X12_isAct lk_X12_374 st_X12_isAct rfl (Nat.le_of_ble_eq_true rfl) ⟨by decide, by decide⟩ ⟨Nat.le_refl _, Nat.le_refl _, Nat.le_refl _⟩ hb (fun r0 h9 hb => ?_)
    obtain ⟨r10, rfl, hb⟩ := hb
    refine wp_if_eq (tgt := 34) dX12_leads_17 (by decide) (fun c11 => ?_) (fun c11 => ?_)
    · have hb := hb.1 c11
      refine wp_iconst (v := (-1)) dX12_leads_34 (by decide) ?_
      exact wp_iret rfl dX12_leads_35 ⟨_, rfl, hb⟩
    · have hb := hb.2 c11
      refine wp_aload_n 0 dX12_leads_20 rfl rfl ?_
      obtain ⟨i12, hb⟩ := hb
      refine wp_getR dX12_leads_21 fl_X12_92 i1 (i12.ne (by decide)) ?_
      refine wp_bipush (v := 27) dX12_leads_24 (by decide) ?_
      refine wp_iload_n 1 dX12_leads_26 rfl rfl ?_
      refine wp_imul dX12_leads_27 ?_
      refine wp_iload_n 2 dX12_leads_28 rfl rfl ?_
      refine wp_iadd dX12_leads_29 ?_
      obtain ⟨b13, hb⟩ := hb
      refine wp_iaload dX12_leads_30 i12 b13 ?_
      refine wp_topi (fun v14 e15 => ?_)
      have hb := hb v14 e15
      refine wp_goto (tgt := 35) dX12_leads_31 (by decide) ?_
      exact wp_iret rfl dX12_leads_35 ⟨_, rfl, hb⟩
theorem c_X12_leads {l : Launch} {g : AG} {h : AH} {x0 : Nat} {x1 : Int32} {x2 : Int32}  {Q : Int32 → AH → Prop} (hb : L_X12_leads_0 l g h x0 x1 x2  Q) : C_X12_leads l g h x0 x1 x2  Q := ax_met rfl rfl (Nat.le_of_ble_eq_true rfl) hb
def C_X12_rowTo (l : Launch) (g : AG) (h : AH) (x0 : Nat) (x1 : Int32)  (Q : Int32 → AH → Prop) : Prop := Ct l g mX12_rowTo 1 21 194 194 h [.ref x0, .int x1] (ax_QI Q)
def L_X12_rowTo_0 (l : Launch) (g : AG) (h : AH) (x0 : Nat) (x1 : Int32)  (Q : Int32 → AH → Prop) : Prop := Wp l g mX12_rowTo 1 21 194 194 194 0 [(0, .ref x0), (1, .int x1)] [] h (FM g 194 194 (ax_QI Q))
def L_X12_rowTo_53 (l : Launch) (g : AG) (h : AH) (x0 : Nat) (x2 : Int32) (x3 : Int32)  (Q : Int32 → AH → Prop) : Prop := Wp l g mX12_rowTo 1 21 194 194 194 53 [(0, .ref x0), (2, .int x2), (3, .int x3)] [] h (FM g 194 194 (ax_QI Q))
set_option maxRecDepth 100000 in
set_option maxHeartbeats 4000000 in
theorem s_X12_rowTo_0 {l : Launch} {g : AG} {h : AH} {x0 : Nat} {x1 : Int32}  {Q : Int32 → AH → Prop} (hb : (Is 194 x0 11) ∧ ( ∀ h2 : AH, h2 = ax_setI h x0 0 0 → ( ((¬ h2.1 x0 24 = (-1) → (C_X12_isState l g h2 x0 x1 (fun r7 h6 => ( ((¬ r7 = 0 → ((Is 194 (h6.2.2 x0 30) 20) ∧ ( (vp_in x1 (ax_s (h6.2.2 x0 30)).2) ∧ ( ∀ h11 : AH, h11 = ax_setI h6 x0 40 (h6.1 (h6.2.2 x0 30) x1.toNatClampNeg) → ( ∀ v13 : Int32, v13 = ((h11.1 x0 40) - 1) → ( L_X12_rowTo_53 l g h11 x0 x1 v13  Q)))))) ∧ (r7 = 0 → (C_X12_refused l g h6 x0 1 (fun r17 h16 => ( Q r17 h16))))))))) ∧ (h2.1 x0 24 = (-1) → (C_X12_refused l g h2 x0 6 (fun r20 h19 => ( Q r20 h19)))))))) : L_X12_rowTo_0 l g h x0 x1  Q := by
  obtain ⟨i1, hb⟩ := hb
  refine wp_aload_n 0 dX12_rowTo_0 rfl rfl ?_
  refine wp_iconst (v := 0) dX12_rowTo_1 (by decide) ?_
  refine wp_putI dX12_rowTo_2 fl_X12_1 (Or.inl rfl) i1 ?_
  refine wp_topH (fun h2 e3 => ?_)
  have hb := hb h2 e3
  refine wp_aload_n 0 dX12_rowTo_5 rfl rfl ?_
  refine wp_getI dX12_rowTo_6 fl_X12_62 i1 ?_
  refine wp_iconst (v := (-1)) dX12_rowTo_9 (by decide) ?_
  refine wp_icmp_ne (tgt := 20) dX12_rowTo_10 (by decide) (fun c4 => ?_) (fun c4 => ?_)
  · have hb := hb.1 c4
    refine wp_aload_n 0 dX12_rowTo_20 rfl rfl ?_
    refine wp_iload_n 1 dX12_rowTo_21 rfl rfl ?_
    refine wp_callV (as := [.int x1]) dX12_rowTo_22 cb_X12_isState lk_X12_412 im_X12_isState se_X12_isState rfl (Nat.le_of_ble_eq_true rfl) ⟨by decide, by decide⟩ ⟨Nat.le_refl _, Nat.le_refl _, Nat.le_refl _⟩ i1 rfl (by decide) hb (fun r0 h6 hb => ?_)
    obtain ⟨r7, rfl, hb⟩ := hb
    refine wp_if_ne (tgt := 34) dX12_rowTo_25 (by decide) (fun c8 => ?_) (fun c8 => ?_)
    · have hb := hb.1 c8
      refine wp_aload_n 0 dX12_rowTo_34 rfl rfl ?_
      refine wp_aload_n 0 dX12_rowTo_35 rfl rfl ?_
      obtain ⟨i9, hb⟩ := hb
      refine wp_getR dX12_rowTo_36 fl_X12_77 i1 (i9.ne (by decide)) ?_
      refine wp_iload_n 1 dX12_rowTo_39 rfl rfl ?_
      obtain ⟨b10, hb⟩ := hb
      refine wp_iaload dX12_rowTo_40 i9 b10 ?_
      refine wp_putI dX12_rowTo_41 fl_X12_415 (Or.inl rfl) i1 ?_
      refine wp_topH (fun h11 e12 => ?_)
      have hb := hb h11 e12
      refine wp_iload_n 1 dX12_rowTo_44 rfl rfl ?_
      refine wp_istore_n (lv2 := [(2, .int x1), (0, .ref x0), (1, .int x1)]) dX12_rowTo_45 rfl (by decide) rfl ?_
      refine wp_aload_n 1 dX12_rowTo_46 rfl rfl ?_
      refine wp_getI dX12_rowTo_47 fl_X12_415 i1 ?_
      refine wp_iconst (v := 1) dX12_rowTo_50 (by decide) ?_
      refine wp_isub dX12_rowTo_51 ?_
      refine wp_topi (fun v13 e14 => ?_)
      have hb := hb v13 e14
      refine wp_istore_n (lv2 := [(3, .int v13), (2, .int x1), (0, .ref x0), (1, .int x1)]) dX12_rowTo_52 rfl (by decide) rfl ?_
      exact wp_sub [2, 1, 0] rfl hb
    · have hb := hb.2 c8
      refine wp_aload_n 0 dX12_rowTo_28 rfl rfl ?_
      refine wp_iconst (v := 1) dX12_rowTo_29 (by decide) ?_
      refine wp_callV (as := [.int 1]) dX12_rowTo_30 cb_X12_refused lk_X12_316 im_X12_refused se_X12_refused rfl (Nat.le_of_ble_eq_true rfl) ⟨by decide, by decide⟩ ⟨Nat.le_refl _, Nat.le_refl _, Nat.le_refl _⟩ i1 rfl (by decide) hb (fun r0 h16 hb => ?_)
      obtain ⟨r17, rfl, hb⟩ := hb
      exact wp_iret rfl dX12_rowTo_33 ⟨_, rfl, hb⟩
  · have hb := hb.2 c4
    refine wp_aload_n 0 dX12_rowTo_13 rfl rfl ?_
    refine wp_bipush (v := 6) dX12_rowTo_14 (by decide) ?_
    refine wp_callV (as := [.int 6]) dX12_rowTo_16 cb_X12_refused lk_X12_316 im_X12_refused se_X12_refused rfl (Nat.le_of_ble_eq_true rfl) ⟨by decide, by decide⟩ ⟨Nat.le_refl _, Nat.le_refl _, Nat.le_refl _⟩ i1 rfl (by decide) hb (fun r0 h19 hb => ?_)
    obtain ⟨r20, rfl, hb⟩ := hb
    exact wp_iret rfl dX12_rowTo_19 ⟨_, rfl, hb⟩
set_option maxRecDepth 100000 in
set_option maxHeartbeats 4000000 in
theorem s_X12_rowTo_53 {l : Launch} {g : AG} {h : AH} {x0 : Nat} {x2 : Int32} {x3 : Int32}  {Q : Int32 → AH → Prop} (hb : ((x3 < 0 → ((Is 194 x0 11) ∧ ( C_X12_done l g h x0 (h.1 x0 40) (fun r25 h24 => ( Q r25 h24))))) ∧ (¬ (x3 < 0) → ((Is 194 x0 11) ∧ ( (Is 194 (h.2.2 x0 39) 20) ∧ ( (Is 194 (h.2.2 x0 29) 20) ∧ ( (vp_in x2 (ax_s (h.2.2 x0 29)).2) ∧ ( (vp_in x3 (ax_s (h.2.2 x0 39)).2) ∧ ( ∀ h31 : AH, h31 = ax_setI h (h.2.2 x0 39) x3.toNatClampNeg (h.1 (h.2.2 x0 29) x2.toNatClampNeg) → ( (Is 194 (h31.2.2 x0 28) 20) ∧ ( (vp_in x2 (ax_s (h31.2.2 x0 28)).2) ∧ ( ∀ v35 : Int32, v35 = (h31.1 (h31.2.2 x0 28) x2.toNatClampNeg) → ( ∀ v37 : Int32, v37 = x3 + (-1) → ( L_X12_rowTo_53 l g h31 x0 v35 v37  Q)))))))))))))) : L_X12_rowTo_53 l g h x0 x2 x3  Q := by
  refine wp_iload_n 2 dX12_rowTo_53 rfl rfl ?_
  refine wp_if_lt (tgt := 82) dX12_rowTo_54 (by decide) (fun c21 => ?_) (fun c21 => ?_)
  · have hb := hb.1 c21
    obtain ⟨i22, hb⟩ := hb
    refine wp_aload_n 0 dX12_rowTo_82 rfl rfl ?_
    refine wp_aload_n 0 dX12_rowTo_83 rfl rfl ?_
    refine wp_getI dX12_rowTo_84 fl_X12_415 i22 ?_
    refine wp_callV (as := [.int (h.1 x0 40)]) dX12_rowTo_87 cb_X12_done lk_X12_337 im_X12_done se_X12_done rfl (Nat.le_of_ble_eq_true rfl) ⟨by decide, by decide⟩ ⟨Nat.le_refl _, Nat.le_refl _, Nat.le_refl _⟩ i22 rfl (by decide) hb (fun r0 h24 hb => ?_)
    obtain ⟨r25, rfl, hb⟩ := hb
    exact wp_iret rfl dX12_rowTo_90 ⟨_, rfl, hb⟩
  · have hb := hb.2 c21
    obtain ⟨i26, hb⟩ := hb
    refine wp_aload_n 0 dX12_rowTo_57 rfl rfl ?_
    obtain ⟨i27, hb⟩ := hb
    refine wp_getR dX12_rowTo_58 fl_X12_101 i26 (i27.ne (by decide)) ?_
    refine wp_iload_n 2 dX12_rowTo_61 rfl rfl ?_
    refine wp_aload_n 0 dX12_rowTo_62 rfl rfl ?_
    obtain ⟨i28, hb⟩ := hb
    refine wp_getR dX12_rowTo_63 fl_X12_74 i26 (i28.ne (by decide)) ?_
    refine wp_iload_n 1 dX12_rowTo_66 rfl rfl ?_
    obtain ⟨b29, hb⟩ := hb
    refine wp_iaload dX12_rowTo_67 i28 b29 ?_
    obtain ⟨b30, hb⟩ := hb
    refine wp_iastore dX12_rowTo_68 i27 b30 ?_
    refine wp_topH (fun h31 e32 => ?_)
    have hb := hb h31 e32
    refine wp_aload_n 0 dX12_rowTo_69 rfl rfl ?_
    obtain ⟨i33, hb⟩ := hb
    refine wp_getR dX12_rowTo_70 fl_X12_71 i26 (i33.ne (by decide)) ?_
    refine wp_iload_n 1 dX12_rowTo_73 rfl rfl ?_
    obtain ⟨b34, hb⟩ := hb
    refine wp_iaload dX12_rowTo_74 i33 b34 ?_
    refine wp_topi (fun v35 e36 => ?_)
    have hb := hb v35 e36
    refine wp_istore_n (lv2 := [(2, .int v35), (0, .ref x0), (3, .int x3)]) dX12_rowTo_75 rfl (by decide) rfl ?_
    obtain ⟨v37, e38⟩ : ∃ y : Int32, y = x3 + (-1) := ⟨_, rfl⟩
    have hb := hb v37 e38
    refine wp_iinc (v := v37) (lv2 := [(3, .int v37), (2, .int v35), (0, .ref x0)]) 2 dX12_rowTo_76 rfl (by rw [e38]; rfl) (by decide) rfl ?_
    refine wp_goto (tgt := 53) dX12_rowTo_79 (by decide) ?_
    exact wp_sub [2, 1, 0] rfl hb
theorem c_X12_rowTo {l : Launch} {g : AG} {h : AH} {x0 : Nat} {x1 : Int32}  {Q : Int32 → AH → Prop} (hb : L_X12_rowTo_0 l g h x0 x1  Q) : C_X12_rowTo l g h x0 x1  Q := ax_met rfl rfl (Nat.le_of_ble_eq_true rfl) hb
def C_X12_faultAt (l : Launch) (g : AG) (h : AH) (x0 : Nat) (x1 : Int32)  (Q : Int32 → AH → Prop) : Prop := Ct l g mX12_faultAt 1 21 194 194 h [.ref x0, .int x1] (ax_QI Q)
def L_X12_faultAt_0 (l : Launch) (g : AG) (h : AH) (x0 : Nat) (x1 : Int32)  (Q : Int32 → AH → Prop) : Prop := Wp l g mX12_faultAt 1 21 194 194 194 0 [(0, .ref x0), (1, .int x1)] [] h (FM g 194 194 (ax_QI Q))
def L_X12_faultAt_39 (l : Launch) (g : AG) (h : AH) (x0 : Nat) (x1 : Int32) (x2 : Int32)  (Q : Int32 → AH → Prop) : Prop := Wp l g mX12_faultAt 1 21 194 194 194 39 [(0, .ref x0), (1, .int x1), (2, .int x2)] [] h (FM g 194 194 (ax_QI Q))
def L_X12_faultAt_67 (l : Launch) (g : AG) (h : AH) (x0 : Nat) (x2 : Int32)  (Q : Int32 → AH → Prop) : Prop := Wp l g mX12_faultAt 1 21 194 194 194 67 [(0, .ref x0), (2, .int x2)] [] h (FM g 194 194 (ax_QI Q))
set_option maxRecDepth 100000 in
set_option maxHeartbeats 4000000 in
theorem s_X12_faultAt_0 {l : Launch} {g : AG} {h : AH} {x0 : Nat} {x1 : Int32}  {Q : Int32 → AH → Prop} (hb : (Is 194 x0 11) ∧ ( ∀ h2 : AH, h2 = ax_setI h x0 0 0 → ( ((¬ h2.1 x0 24 = (-1) → (((x1 < 1 → (C_X12_refused l g h2 x0 2 (fun r8 h7 => ( Q r8 h7)))) ∧ (¬ (x1 < 1) → (((x1 ≤ 20 → (L_X12_faultAt_39 l g h2 x0 x1 0  Q)) ∧ (¬ (x1 ≤ 20) → (C_X12_refused l g h2 x0 2 (fun r12 h11 => ( Q r12 h11)))))))))) ∧ (h2.1 x0 24 = (-1) → (C_X12_refused l g h2 x0 6 (fun r15 h14 => ( Q r15 h14)))))))) : L_X12_faultAt_0 l g h x0 x1  Q := by
  obtain ⟨i1, hb⟩ := hb
  refine wp_aload_n 0 dX12_faultAt_0 rfl rfl ?_
  refine wp_iconst (v := 0) dX12_faultAt_1 (by decide) ?_
  refine wp_putI dX12_faultAt_2 fl_X12_1 (Or.inl rfl) i1 ?_
  refine wp_topH (fun h2 e3 => ?_)
  have hb := hb h2 e3
  refine wp_aload_n 0 dX12_faultAt_5 rfl rfl ?_
  refine wp_getI dX12_faultAt_6 fl_X12_62 i1 ?_
  refine wp_iconst (v := (-1)) dX12_faultAt_9 (by decide) ?_
  refine wp_icmp_ne (tgt := 20) dX12_faultAt_10 (by decide) (fun c4 => ?_) (fun c4 => ?_)
  · have hb := hb.1 c4
    refine wp_iload_n 1 dX12_faultAt_20 rfl rfl ?_
    refine wp_iconst (v := 1) dX12_faultAt_21 (by decide) ?_
    refine wp_icmp_lt (tgt := 31) dX12_faultAt_22 (by decide) (fun c5 => ?_) (fun c5 => ?_)
    · have hb := hb.1 c5
      refine wp_aload_n 0 dX12_faultAt_31 rfl rfl ?_
      refine wp_iconst (v := 2) dX12_faultAt_32 (by decide) ?_
      refine wp_callV (as := [.int 2]) dX12_faultAt_33 cb_X12_refused lk_X12_316 im_X12_refused se_X12_refused rfl (Nat.le_of_ble_eq_true rfl) ⟨by decide, by decide⟩ ⟨Nat.le_refl _, Nat.le_refl _, Nat.le_refl _⟩ i1 rfl (by decide) hb (fun r0 h7 hb => ?_)
      obtain ⟨r8, rfl, hb⟩ := hb
      exact wp_iret rfl dX12_faultAt_36 ⟨_, rfl, hb⟩
    · have hb := hb.2 c5
      refine wp_iload_n 1 dX12_faultAt_25 rfl rfl ?_
      refine wp_bipush (v := 20) dX12_faultAt_26 (by decide) ?_
      refine wp_icmp_le (tgt := 37) dX12_faultAt_28 (by decide) (fun c9 => ?_) (fun c9 => ?_)
      · have hb := hb.1 c9
        refine wp_iconst (v := 0) dX12_faultAt_37 (by decide) ?_
        refine wp_istore_n (lv2 := [(2, .int 0), (0, .ref x0), (1, .int x1)]) dX12_faultAt_38 rfl (by decide) rfl ?_
        exact wp_sub [1, 2, 0] rfl hb
      · have hb := hb.2 c9
        refine wp_aload_n 0 dX12_faultAt_31 rfl rfl ?_
        refine wp_iconst (v := 2) dX12_faultAt_32 (by decide) ?_
        refine wp_callV (as := [.int 2]) dX12_faultAt_33 cb_X12_refused lk_X12_316 im_X12_refused se_X12_refused rfl (Nat.le_of_ble_eq_true rfl) ⟨by decide, by decide⟩ ⟨Nat.le_refl _, Nat.le_refl _, Nat.le_refl _⟩ i1 rfl (by decide) hb (fun r0 h11 hb => ?_)
        obtain ⟨r12, rfl, hb⟩ := hb
        exact wp_iret rfl dX12_faultAt_36 ⟨_, rfl, hb⟩
  · have hb := hb.2 c4
    refine wp_aload_n 0 dX12_faultAt_13 rfl rfl ?_
    refine wp_bipush (v := 6) dX12_faultAt_14 (by decide) ?_
    refine wp_callV (as := [.int 6]) dX12_faultAt_16 cb_X12_refused lk_X12_316 im_X12_refused se_X12_refused rfl (Nat.le_of_ble_eq_true rfl) ⟨by decide, by decide⟩ ⟨Nat.le_refl _, Nat.le_refl _, Nat.le_refl _⟩ i1 rfl (by decide) hb (fun r0 h14 hb => ?_)
    obtain ⟨r15, rfl, hb⟩ := hb
    exact wp_iret rfl dX12_faultAt_19 ⟨_, rfl, hb⟩
set_option maxRecDepth 100000 in
set_option maxHeartbeats 4000000 in
theorem s_X12_faultAt_39 {l : Launch} {g : AG} {h : AH} {x0 : Nat} {x1 : Int32} {x2 : Int32}  {Q : Int32 → AH → Prop} (hb : (Is 194 x0 11) ∧ ( ((h.1 x0 25 ≤ x2 → (L_X12_faultAt_67 l g h x0 x2  Q)) ∧ (¬ (h.1 x0 25 ≤ x2) → ((Is 194 (h.2.2 x0 26) 21) ∧ ( (vp_in x2 (ax_s (h.2.2 x0 26)).2) ∧ ( (((jlshr (h.2.1 (h.2.2 x0 26) x2.toNatClampNeg) 38).toInt32 = x1 → (L_X12_faultAt_67 l g h x0 x2  Q)) ∧ (¬ ((jlshr (h.2.1 (h.2.2 x0 26) x2.toNatClampNeg) 38).toInt32 = x1) → (∀ v21 : Int32, v21 = x2 + (1) → ( L_X12_faultAt_39 l g h x0 x1 v21  Q))))))))))) : L_X12_faultAt_39 l g h x0 x1 x2  Q := by
  refine wp_iload_n 2 dX12_faultAt_39 rfl rfl ?_
  obtain ⟨i16, hb⟩ := hb
  refine wp_aload_n 0 dX12_faultAt_40 rfl rfl ?_
  refine wp_getI dX12_faultAt_41 fl_X12_334 i16 ?_
  refine wp_icmp_ge (tgt := 67) dX12_faultAt_44 (by decide) (fun c17 => ?_) (fun c17 => ?_)
  · have hb := hb.1 c17
    exact wp_sub [0, 2] rfl hb
  · have hb := hb.2 c17
    refine wp_aload_n 0 dX12_faultAt_47 rfl rfl ?_
    obtain ⟨i18, hb⟩ := hb
    refine wp_getR dX12_faultAt_48 fl_X12_65 i16 (i18.ne (by decide)) ?_
    refine wp_iload_n 2 dX12_faultAt_51 rfl rfl ?_
    obtain ⟨b19, hb⟩ := hb
    refine wp_laload dX12_faultAt_52 i18 b19 ?_
    refine wp_bipush (v := 38) dX12_faultAt_53 (by decide) ?_
    refine wp_lshr dX12_faultAt_55 ?_
    refine wp_l2i dX12_faultAt_56 ?_
    refine wp_iload_n 1 dX12_faultAt_57 rfl rfl ?_
    refine wp_icmp_eq (tgt := 67) dX12_faultAt_58 (by decide) (fun c20 => ?_) (fun c20 => ?_)
    · have hb := hb.1 c20
      exact wp_sub [0, 2] rfl hb
    · have hb := hb.2 c20
      obtain ⟨v21, e22⟩ : ∃ y : Int32, y = x2 + (1) := ⟨_, rfl⟩
      have hb := hb v21 e22
      refine wp_iinc (v := v21) (lv2 := [(2, .int v21), (0, .ref x0), (1, .int x1)]) 2 dX12_faultAt_61 rfl (by rw [e22]; rfl) (by decide) rfl ?_
      refine wp_goto (tgt := 39) dX12_faultAt_64 (by decide) ?_
      exact wp_sub [1, 2, 0] rfl hb
set_option maxRecDepth 100000 in
set_option maxHeartbeats 4000000 in
theorem s_X12_faultAt_67 {l : Launch} {g : AG} {h : AH} {x0 : Nat} {x2 : Int32}  {Q : Int32 → AH → Prop} (hb : (Is 194 x0 11) ∧ ( ((h.1 x0 25 ≤ x2 → (C_X12_done l g h x0 (-2) (fun r27 h26 => ( Q r27 h26)))) ∧ (¬ (h.1 x0 25 ≤ x2) → (C_X12_done l g h x0 x2 (fun r30 h29 => ( Q r30 h29))))))) : L_X12_faultAt_67 l g h x0 x2  Q := by
  obtain ⟨i23, hb⟩ := hb
  refine wp_aload_n 0 dX12_faultAt_67 rfl rfl ?_
  refine wp_iload_n 1 dX12_faultAt_68 rfl rfl ?_
  refine wp_aload_n 0 dX12_faultAt_69 rfl rfl ?_
  refine wp_getI dX12_faultAt_70 fl_X12_334 i23 ?_
  refine wp_icmp_ge (tgt := 80) dX12_faultAt_73 (by decide) (fun c24 => ?_) (fun c24 => ?_)
  · have hb := hb.1 c24
    refine wp_bipush (v := (-2)) dX12_faultAt_80 (by decide) ?_
    refine wp_callV (as := [.int (-2)]) dX12_faultAt_82 cb_X12_done lk_X12_337 im_X12_done se_X12_done rfl (Nat.le_of_ble_eq_true rfl) ⟨by decide, by decide⟩ ⟨Nat.le_refl _, Nat.le_refl _, Nat.le_refl _⟩ i23 rfl (by decide) hb (fun r0 h26 hb => ?_)
    obtain ⟨r27, rfl, hb⟩ := hb
    exact wp_iret rfl dX12_faultAt_85 ⟨_, rfl, hb⟩
  · have hb := hb.2 c24
    refine wp_iload_n 1 dX12_faultAt_76 rfl rfl ?_
    refine wp_goto (tgt := 82) dX12_faultAt_77 (by decide) ?_
    refine wp_callV (as := [.int x2]) dX12_faultAt_82 cb_X12_done lk_X12_337 im_X12_done se_X12_done rfl (Nat.le_of_ble_eq_true rfl) ⟨by decide, by decide⟩ ⟨Nat.le_refl _, Nat.le_refl _, Nat.le_refl _⟩ i23 rfl (by decide) hb (fun r0 h29 hb => ?_)
    obtain ⟨r30, rfl, hb⟩ := hb
    exact wp_iret rfl dX12_faultAt_85 ⟨_, rfl, hb⟩
theorem c_X12_faultAt {l : Launch} {g : AG} {h : AH} {x0 : Nat} {x1 : Int32}  {Q : Int32 → AH → Prop} (hb : L_X12_faultAt_0 l g h x0 x1  Q) : C_X12_faultAt l g h x0 x1  Q := ax_met rfl rfl (Nat.le_of_ble_eq_true rfl) hb
