def C_X12_parts (l : Launch) (g : AG) (h : AH) (x0 : Nat)  (Q : AH → Prop) : Prop := Ct l g mX12_parts 2 53 194 194 h [.ref x0] (ax_QV Q)
def L_X12_parts_0 (l : Launch) (g : AG) (h : AH) (x0 : Nat)  (Q : AH → Prop) : Prop := Wp l g mX12_parts 2 53 194 194 194 0 [(0, .ref x0)] [] h (FM g 194 194 (ax_QV Q))
def L_X12_parts_12 (l : Launch) (g : AG) (h : AH) (x0 : Nat) (x1 : Nat) (x2 : Int32)  (Q : AH → Prop) : Prop := Wp l g mX12_parts 2 53 194 194 194 12 [(0, .ref x0), (1, .ref x1), (2, .int x2)] [] h (FM g 194 194 (ax_QV Q))
def L_X12_parts_52 (l : Launch) (g : AG) (h : AH) (x0 : Nat) (x2 : Int32)  (Q : AH → Prop) : Prop := Wp l g mX12_parts 2 53 194 194 194 52 [(0, .ref x0), (2, .int x2)] [] h (FM g 194 194 (ax_QV Q))
def L_X12_parts_72 (l : Launch) (g : AG) (h : AH) (x0 : Nat) (x2 : Int32) (x3 : Int32)  (Q : AH → Prop) : Prop := Wp l g mX12_parts 2 53 194 194 194 72 [(0, .ref x0), (2, .int x2), (3, .int x3)] [] h (FM g 194 194 (ax_QV Q))
def L_X12_parts_156 (l : Launch) (g : AG) (h : AH) (x0 : Nat) (x2 : Int32) (x3 : Int32)  (Q : AH → Prop) : Prop := Wp l g mX12_parts 2 53 194 194 194 156 [(0, .ref x0), (2, .int x2), (3, .int x3)] [] h (FM g 194 194 (ax_QV Q))
def L_X12_parts_83 (l : Launch) (g : AG) (h : AH) (x0 : Nat) (x2 : Int32) (x3 : Int32) (x4 : Int32)  (Q : AH → Prop) : Prop := Wp l g mX12_parts 2 53 194 194 194 83 [(0, .ref x0), (2, .int x2), (3, .int x3), (4, .int x4)] [] h (FM g 194 194 (ax_QV Q))
def L_X12_parts_113 (l : Launch) (g : AG) (h : AH) (x0 : Nat) (x2 : Int32) (x3 : Int32) (x4 : Int32)  (Q : AH → Prop) : Prop := Wp l g mX12_parts 2 53 194 194 194 113 [(0, .ref x0), (2, .int x2), (3, .int x3), (4, .int x4)] [] h (FM g 194 194 (ax_QV Q))
set_option maxRecDepth 100000 in
set_option maxHeartbeats 4000000 in
theorem s_X12_parts_0 {l : Launch} {g : AG} {h : AH} {x0 : Nat}  {Q : AH → Prop} (hb : (Is 194 x0 11) ∧ ( (Is 194 (h.2.2 x0 4) 25) ∧ ( (vp_in (h.1 x0 24) (ax_s (h.2.2 x0 4)).2) ∧ ( (Is 194 (h.2.2 (h.2.2 x0 4) (h.1 x0 24).toNatClampNeg) 9) ∧ ( ∀ v5 : Nat, v5 = (h.2.2 (h.2.2 x0 4) (h.1 x0 24).toNatClampNeg) → ( L_X12_parts_12 l g h x0 v5 0  Q)))))) : L_X12_parts_0 l g h x0  Q := by
  obtain ⟨i1, hb⟩ := hb
  refine wp_aload_n 0 dX12_parts_0 rfl rfl ?_
  obtain ⟨i2, hb⟩ := hb
  refine wp_getR dX12_parts_1 fl_X12_21 i1 (i2.ne (by decide)) ?_
  refine wp_aload_n 0 dX12_parts_4 rfl rfl ?_
  refine wp_getI dX12_parts_5 fl_X12_62 i1 ?_
  obtain ⟨b3, hb⟩ := hb
  obtain ⟨i4, hb⟩ := hb
  refine wp_aaload25 dX12_parts_8 i2 b3 (i4.ne (by decide)) ?_
  refine wp_topr (fun v5 e6 => ?_)
  have hb := hb v5 e6
  have i7 : Is 194 v5 9 := by rw [e6]; exact i4
  refine wp_astore_n (lv2 := [(1, .ref v5), (0, .ref x0)]) dX12_parts_9 rfl (by decide) rfl ?_
  refine wp_iconst (v := 0) dX12_parts_10 (by decide) ?_
  refine wp_istore_n (lv2 := [(2, .int 0), (1, .ref v5), (0, .ref x0)]) dX12_parts_11 rfl (by decide) rfl ?_
  exact wp_sub [2, 1, 0] rfl hb
set_option maxRecDepth 100000 in
set_option maxHeartbeats 4000000 in
theorem s_X12_parts_12 {l : Launch} {g : AG} {h : AH} {x0 : Nat} {x1 : Nat} {x2 : Int32}  {Q : AH → Prop} (hb : (Is 194 x0 11) ∧ ( ((h.1 x0 25 ≤ x2 → (∀ h10 : AH, h10 = ax_setI h x0 36 1 → ( L_X12_parts_52 l g h10 x0 0  Q))) ∧ (¬ (h.1 x0 25 ≤ x2) → ((Is 194 (h.2.2 x0 37) 21) ∧ ( (Is 194 x1 9) ∧ ( C_X12_view l g h x0 x1 x2 (fun r16 h15 => ( (vp_in x2 (ax_s (h.2.2 x0 37)).2) ∧ ( ∀ h18 : AH, h18 = ax_setL h15 (h.2.2 x0 37) x2.toNatClampNeg r16 → ( (Is 194 (h18.2.2 x0 32) 20) ∧ ( (vp_in x2 (ax_s (h18.2.2 x0 32)).2) ∧ ( ∀ h22 : AH, h22 = ax_setI h18 (h18.2.2 x0 32) x2.toNatClampNeg 0 → ( ∀ v24 : Int32, v24 = x2 + (1) → ( L_X12_parts_12 l g h22 x0 x1 v24  Q))))))))))))))) : L_X12_parts_12 l g h x0 x1 x2  Q := by
  refine wp_iload_n 2 dX12_parts_12 rfl rfl ?_
  obtain ⟨i8, hb⟩ := hb
  refine wp_aload_n 0 dX12_parts_13 rfl rfl ?_
  refine wp_getI dX12_parts_14 fl_X12_334 i8 ?_
  refine wp_icmp_ge (tgt := 45) dX12_parts_17 (by decide) (fun c9 => ?_) (fun c9 => ?_)
  · have hb := hb.1 c9
    refine wp_iconst (v := 0) dX12_parts_45 (by decide) ?_
    refine wp_istore_n (lv2 := [(2, .int 0), (0, .ref x0), (1, .ref x1)]) dX12_parts_46 rfl (by decide) rfl ?_
    refine wp_aload_n 1 dX12_parts_47 rfl rfl ?_
    refine wp_iconst (v := 1) dX12_parts_48 (by decide) ?_
    refine wp_putI dX12_parts_49 fl_X12_405 (Or.inl rfl) i8 ?_
    refine wp_topH (fun h10 e11 => ?_)
    have hb := hb h10 e11
    exact wp_sub [1, 0] rfl hb
  · have hb := hb.2 c9
    refine wp_aload_n 0 dX12_parts_20 rfl rfl ?_
    obtain ⟨i12, hb⟩ := hb
    refine wp_getR dX12_parts_21 fl_X12_95 i8 (i12.ne (by decide)) ?_
    refine wp_iload_n 2 dX12_parts_24 rfl rfl ?_
    refine wp_aload_n 0 dX12_parts_25 rfl rfl ?_
    obtain ⟨i13, hb⟩ := hb
    refine wp_aload_n 1 dX12_parts_26 rfl rfl ?_
    refine wp_iload_n 2 dX12_parts_27 rfl rfl ?_
    refine wp_callV (as := [.ref x1, .int x2]) dX12_parts_28 cb_X12_view lk_X12_401 im_X12_view se_X12_view rfl (Nat.le_of_ble_eq_true rfl) ⟨by decide, by decide⟩ ⟨Nat.le_refl _, Nat.le_refl _, Nat.le_refl _⟩ i8 rfl (by decide) hb (fun r0 h15 hb => ?_)
    obtain ⟨r16, rfl, hb⟩ := hb
    obtain ⟨b17, hb⟩ := hb
    refine wp_lastore dX12_parts_31 i12 b17 ?_
    refine wp_topH (fun h18 e19 => ?_)
    have hb := hb h18 e19
    refine wp_aload_n 0 dX12_parts_32 rfl rfl ?_
    obtain ⟨i20, hb⟩ := hb
    refine wp_getR dX12_parts_33 fl_X12_83 i8 (i20.ne (by decide)) ?_
    refine wp_iload_n 2 dX12_parts_36 rfl rfl ?_
    refine wp_iconst (v := 0) dX12_parts_37 (by decide) ?_
    obtain ⟨b21, hb⟩ := hb
    refine wp_iastore dX12_parts_38 i20 b21 ?_
    refine wp_topH (fun h22 e23 => ?_)
    have hb := hb h22 e23
    obtain ⟨v24, e25⟩ : ∃ y : Int32, y = x2 + (1) := ⟨_, rfl⟩
    have hb := hb v24 e25
    refine wp_iinc (v := v24) (lv2 := [(2, .int v24), (0, .ref x0), (1, .ref x1)]) 2 dX12_parts_39 rfl (by rw [e25]; rfl) (by decide) rfl ?_
    refine wp_goto (tgt := 12) dX12_parts_42 (by decide) ?_
    exact wp_sub [1, 2, 0] rfl hb
set_option maxRecDepth 100000 in
set_option maxHeartbeats 4000000 in
theorem s_X12_parts_52 {l : Launch} {g : AG} {h : AH} {x0 : Nat} {x2 : Int32}  {Q : AH → Prop} (hb : (Is 194 x0 11) ∧ ( ((h.1 x0 36 = x2 → (Q h)) ∧ (¬ (h.1 x0 36 = x2) → (∀ v28 : Int32, v28 = (h.1 x0 36) → ( ∀ h30 : AH, h30 = ax_setI h x0 36 0 → ( L_X12_parts_72 l g h30 x0 v28 0  Q))))))) : L_X12_parts_52 l g h x0 x2  Q := by
  obtain ⟨i26, hb⟩ := hb
  refine wp_aload_n 0 dX12_parts_52 rfl rfl ?_
  refine wp_getI dX12_parts_53 fl_X12_405 i26 ?_
  refine wp_iload_n 1 dX12_parts_56 rfl rfl ?_
  refine wp_icmp_eq (tgt := 185) dX12_parts_57 (by decide) (fun c27 => ?_) (fun c27 => ?_)
  · have hb := hb.1 c27
    exact wp_vret rfl dX12_parts_185 ⟨rfl, hb⟩
  · have hb := hb.2 c27
    refine wp_aload_n 0 dX12_parts_60 rfl rfl ?_
    refine wp_getI dX12_parts_61 fl_X12_405 i26 ?_
    refine wp_topi (fun v28 e29 => ?_)
    have hb := hb v28 e29
    refine wp_istore_n (lv2 := [(2, .int v28), (0, .ref x0)]) dX12_parts_64 rfl (by decide) rfl ?_
    refine wp_aload_n 1 dX12_parts_65 rfl rfl ?_
    refine wp_iconst (v := 0) dX12_parts_66 (by decide) ?_
    refine wp_putI dX12_parts_67 fl_X12_405 (Or.inl rfl) i26 ?_
    refine wp_topH (fun h30 e31 => ?_)
    have hb := hb h30 e31
    refine wp_iconst (v := 0) dX12_parts_70 (by decide) ?_
    refine wp_istore_n (lv2 := [(3, .int 0), (2, .int v28), (0, .ref x0)]) dX12_parts_71 rfl (by decide) rfl ?_
    exact wp_sub [2, 1, 0] rfl hb
set_option maxRecDepth 100000 in
set_option maxHeartbeats 4000000 in
theorem s_X12_parts_72 {l : Launch} {g : AG} {h : AH} {x0 : Nat} {x2 : Int32} {x3 : Int32}  {Q : AH → Prop} (hb : (Is 194 x0 11) ∧ ( ((h.1 x0 25 ≤ x3 → (L_X12_parts_156 l g h x0 x2 0  Q)) ∧ (¬ (h.1 x0 25 ≤ x3) → (L_X12_parts_83 l g h x0 x2 x3 0  Q))))) : L_X12_parts_72 l g h x0 x2 x3  Q := by
  refine wp_iload_n 2 dX12_parts_72 rfl rfl ?_
  obtain ⟨i32, hb⟩ := hb
  refine wp_aload_n 0 dX12_parts_73 rfl rfl ?_
  refine wp_getI dX12_parts_74 fl_X12_334 i32 ?_
  refine wp_icmp_ge (tgt := 154) dX12_parts_77 (by decide) (fun c33 => ?_) (fun c33 => ?_)
  · have hb := hb.1 c33
    refine wp_iconst (v := 0) dX12_parts_154 (by decide) ?_
    refine wp_istore_n (lv2 := [(3, .int 0), (0, .ref x0), (2, .int x2)]) dX12_parts_155 rfl (by decide) rfl ?_
    exact wp_sub [1, 2, 0] rfl hb
  · have hb := hb.2 c33
    refine wp_iconst (v := 0) dX12_parts_80 (by decide) ?_
    refine wp_istore (lv2 := [(4, .int 0), (0, .ref x0), (2, .int x2), (3, .int x3)]) dX12_parts_81 (by decide) rfl ?_
    exact wp_sub [1, 2, 3, 0] rfl hb
set_option maxRecDepth 100000 in
set_option maxHeartbeats 4000000 in
theorem s_X12_parts_156 {l : Launch} {g : AG} {h : AH} {x0 : Nat} {x2 : Int32} {x3 : Int32}  {Q : AH → Prop} (hb : (Is 194 x0 11) ∧ ( ((h.1 x0 25 ≤ x3 → (L_X12_parts_52 l g h x0 x2  Q)) ∧ (¬ (h.1 x0 25 ≤ x3) → ((Is 194 (h.2.2 x0 32) 20) ∧ ( (Is 194 (h.2.2 x0 33) 20) ∧ ( (vp_in x3 (ax_s (h.2.2 x0 33)).2) ∧ ( (vp_in x3 (ax_s (h.2.2 x0 32)).2) ∧ ( ∀ h40 : AH, h40 = ax_setI h (h.2.2 x0 32) x3.toNatClampNeg (h.1 (h.2.2 x0 33) x3.toNatClampNeg) → ( ∀ v42 : Int32, v42 = x3 + (1) → ( L_X12_parts_156 l g h40 x0 x2 v42  Q))))))))))) : L_X12_parts_156 l g h x0 x2 x3  Q := by
  refine wp_iload_n 2 dX12_parts_156 rfl rfl ?_
  obtain ⟨i34, hb⟩ := hb
  refine wp_aload_n 0 dX12_parts_157 rfl rfl ?_
  refine wp_getI dX12_parts_158 fl_X12_334 i34 ?_
  refine wp_icmp_ge (tgt := 182) dX12_parts_161 (by decide) (fun c35 => ?_) (fun c35 => ?_)
  · have hb := hb.1 c35
    refine wp_goto (tgt := 52) dX12_parts_182 (by decide) ?_
    exact wp_sub [0, 1] rfl hb
  · have hb := hb.2 c35
    refine wp_aload_n 0 dX12_parts_164 rfl rfl ?_
    obtain ⟨i36, hb⟩ := hb
    refine wp_getR dX12_parts_165 fl_X12_83 i34 (i36.ne (by decide)) ?_
    refine wp_iload_n 2 dX12_parts_168 rfl rfl ?_
    refine wp_aload_n 0 dX12_parts_169 rfl rfl ?_
    obtain ⟨i37, hb⟩ := hb
    refine wp_getR dX12_parts_170 fl_X12_86 i34 (i37.ne (by decide)) ?_
    refine wp_iload_n 2 dX12_parts_173 rfl rfl ?_
    obtain ⟨b38, hb⟩ := hb
    refine wp_iaload dX12_parts_174 i37 b38 ?_
    obtain ⟨b39, hb⟩ := hb
    refine wp_iastore dX12_parts_175 i36 b39 ?_
    refine wp_topH (fun h40 e41 => ?_)
    have hb := hb h40 e41
    obtain ⟨v42, e43⟩ : ∃ y : Int32, y = x3 + (1) := ⟨_, rfl⟩
    have hb := hb v42 e43
    refine wp_iinc (v := v42) (lv2 := [(3, .int v42), (0, .ref x0), (2, .int x2)]) 2 dX12_parts_176 rfl (by rw [e43]; rfl) (by decide) rfl ?_
    refine wp_goto (tgt := 156) dX12_parts_179 (by decide) ?_
    exact wp_sub [1, 2, 0] rfl hb
set_option maxRecDepth 100000 in
set_option maxHeartbeats 4000000 in
theorem s_X12_parts_83 {l : Launch} {g : AG} {h : AH} {x0 : Nat} {x2 : Int32} {x3 : Int32} {x4 : Int32}  {Q : AH → Prop} (hb : (Is 194 x0 11) ∧ ( ((h.1 x0 36 ≤ x4 → (L_X12_parts_113 l g h x0 x2 x3 x4  Q)) ∧ (¬ (h.1 x0 36 ≤ x4) → ((Is 194 (h.2.2 x0 34) 20) ∧ ( (vp_in x4 (ax_s (h.2.2 x0 34)).2) ∧ ( C_X12_isLike l g h x0 x3 (h.1 (h.2.2 x0 34) x4.toNatClampNeg) (fun r50 h49 => ( ((¬ r50 = 0 → (L_X12_parts_113 l g h49 x0 x2 x3 x4  Q)) ∧ (r50 = 0 → (∀ v52 : Int32, v52 = x4 + (1) → ( L_X12_parts_83 l g h49 x0 x2 x3 v52  Q))))))))))))) : L_X12_parts_83 l g h x0 x2 x3 x4  Q := by
  refine wp_iload 3 dX12_parts_83 rfl ?_
  obtain ⟨i44, hb⟩ := hb
  refine wp_aload_n 0 dX12_parts_85 rfl rfl ?_
  refine wp_getI dX12_parts_86 fl_X12_405 i44 ?_
  refine wp_icmp_ge (tgt := 113) dX12_parts_89 (by decide) (fun c45 => ?_) (fun c45 => ?_)
  · have hb := hb.1 c45
    exact hb
  · have hb := hb.2 c45
    refine wp_aload_n 0 dX12_parts_92 rfl rfl ?_
    refine wp_iload_n 2 dX12_parts_93 rfl rfl ?_
    refine wp_aload_n 0 dX12_parts_94 rfl rfl ?_
    obtain ⟨i46, hb⟩ := hb
    refine wp_getR dX12_parts_95 fl_X12_89 i44 (i46.ne (by decide)) ?_
    refine wp_iload 3 dX12_parts_98 rfl ?_
    obtain ⟨b47, hb⟩ := hb
    refine wp_iaload dX12_parts_100 i46 b47 ?_
    refine wp_callV (as := [.int x3, .int (h.1 (h.2.2 x0 34) x4.toNatClampNeg)]) dX12_parts_101 cb_X12_isLike lk_X12_408 im_X12_isLike se_X12_isLike rfl (Nat.le_of_ble_eq_true rfl) ⟨by decide, by decide⟩ ⟨Nat.le_refl _, Nat.le_refl _, Nat.le_refl _⟩ i44 rfl (by decide) hb (fun r0 h49 hb => ?_)
    obtain ⟨r50, rfl, hb⟩ := hb
    refine wp_if_ne (tgt := 113) dX12_parts_104 (by decide) (fun c51 => ?_) (fun c51 => ?_)
    · have hb := hb.1 c51
      exact hb
    · have hb := hb.2 c51
      obtain ⟨v52, e53⟩ : ∃ y : Int32, y = x4 + (1) := ⟨_, rfl⟩
      have hb := hb v52 e53
      refine wp_iinc (v := v52) (lv2 := [(4, .int v52), (0, .ref x0), (2, .int x2), (3, .int x3)]) 3 dX12_parts_107 rfl (by rw [e53]; rfl) (by decide) rfl ?_
      refine wp_goto (tgt := 83) dX12_parts_110 (by decide) ?_
      exact wp_sub [1, 2, 3, 0] rfl hb
set_option maxRecDepth 100000 in
set_option maxHeartbeats 4000000 in
theorem s_X12_parts_113 {l : Launch} {g : AG} {h : AH} {x0 : Nat} {x2 : Int32} {x3 : Int32} {x4 : Int32}  {Q : AH → Prop} (hb : (Is 194 x0 11) ∧ ( ((¬ x4 = h.1 x0 36 → ((Is 194 (h.2.2 x0 33) 20) ∧ ( (vp_in x3 (ax_s (h.2.2 x0 33)).2) ∧ ( ∀ h58 : AH, h58 = ax_setI h (h.2.2 x0 33) x3.toNatClampNeg x4 → ( ∀ v60 : Int32, v60 = x3 + (1) → ( L_X12_parts_72 l g h58 x0 x2 v60  Q)))))) ∧ (x4 = h.1 x0 36 → ((Is 194 (h.2.2 x0 34) 20) ∧ ( (vp_in x4 (ax_s (h.2.2 x0 34)).2) ∧ ( ∀ h64 : AH, h64 = ax_setI h (h.2.2 x0 34) x4.toNatClampNeg x3 → ( ∀ h66 : AH, h66 = ax_setI h64 x0 36 ((h64.1 x0 36) + 1) → ( (Is 194 (h66.2.2 x0 33) 20) ∧ ( (vp_in x3 (ax_s (h66.2.2 x0 33)).2) ∧ ( ∀ h70 : AH, h70 = ax_setI h66 (h66.2.2 x0 33) x3.toNatClampNeg x4 → ( ∀ v72 : Int32, v72 = x3 + (1) → ( L_X12_parts_72 l g h70 x0 x2 v72  Q))))))))))))) : L_X12_parts_113 l g h x0 x2 x3 x4  Q := by
  refine wp_iload 3 dX12_parts_113 rfl ?_
  obtain ⟨i54, hb⟩ := hb
  refine wp_aload_n 0 dX12_parts_115 rfl rfl ?_
  refine wp_getI dX12_parts_116 fl_X12_405 i54 ?_
  refine wp_icmp_ne (tgt := 140) dX12_parts_119 (by decide) (fun c55 => ?_) (fun c55 => ?_)
  · have hb := hb.1 c55
    refine wp_aload_n 0 dX12_parts_140 rfl rfl ?_
    obtain ⟨i56, hb⟩ := hb
    refine wp_getR dX12_parts_141 fl_X12_86 i54 (i56.ne (by decide)) ?_
    refine wp_iload_n 2 dX12_parts_144 rfl rfl ?_
    refine wp_iload 3 dX12_parts_145 rfl ?_
    obtain ⟨b57, hb⟩ := hb
    refine wp_iastore dX12_parts_147 i56 b57 ?_
    refine wp_topH (fun h58 e59 => ?_)
    have hb := hb h58 e59
    obtain ⟨v60, e61⟩ : ∃ y : Int32, y = x3 + (1) := ⟨_, rfl⟩
    have hb := hb v60 e61
    refine wp_iinc (v := v60) (lv2 := [(3, .int v60), (0, .ref x0), (2, .int x2), (4, .int x4)]) 2 dX12_parts_148 rfl (by rw [e61]; rfl) (by decide) rfl ?_
    refine wp_goto (tgt := 72) dX12_parts_151 (by decide) ?_
    exact wp_sub [1, 2, 0] rfl hb
  · have hb := hb.2 c55
    refine wp_aload_n 0 dX12_parts_122 rfl rfl ?_
    obtain ⟨i62, hb⟩ := hb
    refine wp_getR dX12_parts_123 fl_X12_89 i54 (i62.ne (by decide)) ?_
    refine wp_iload 3 dX12_parts_126 rfl ?_
    refine wp_iload_n 2 dX12_parts_128 rfl rfl ?_
    obtain ⟨b63, hb⟩ := hb
    refine wp_iastore dX12_parts_129 i62 b63 ?_
    refine wp_topH (fun h64 e65 => ?_)
    have hb := hb h64 e65
    refine wp_aload_n 0 dX12_parts_130 rfl rfl ?_
    refine wp_dup dX12_parts_131 rfl ?_
    refine wp_getI dX12_parts_132 fl_X12_405 i54 ?_
    refine wp_iconst (v := 1) dX12_parts_135 (by decide) ?_
    refine wp_iadd dX12_parts_136 ?_
    refine wp_putI dX12_parts_137 fl_X12_405 (Or.inl rfl) i54 ?_
    refine wp_topH (fun h66 e67 => ?_)
    have hb := hb h66 e67
    refine wp_aload_n 0 dX12_parts_140 rfl rfl ?_
    obtain ⟨i68, hb⟩ := hb
    refine wp_getR dX12_parts_141 fl_X12_86 i54 (i68.ne (by decide)) ?_
    refine wp_iload_n 2 dX12_parts_144 rfl rfl ?_
    refine wp_iload 3 dX12_parts_145 rfl ?_
    obtain ⟨b69, hb⟩ := hb
    refine wp_iastore dX12_parts_147 i68 b69 ?_
    refine wp_topH (fun h70 e71 => ?_)
    have hb := hb h70 e71
    obtain ⟨v72, e73⟩ : ∃ y : Int32, y = x3 + (1) := ⟨_, rfl⟩
    have hb := hb v72 e73
    refine wp_iinc (v := v72) (lv2 := [(3, .int v72), (0, .ref x0), (2, .int x2), (4, .int x4)]) 2 dX12_parts_148 rfl (by rw [e73]; rfl) (by decide) rfl ?_
    refine wp_goto (tgt := 72) dX12_parts_151 (by decide) ?_
    exact wp_sub [1, 2, 0] rfl hb
theorem c_X12_parts {l : Launch} {g : AG} {h : AH} {x0 : Nat}  {Q : AH → Prop} (hb : L_X12_parts_0 l g h x0  Q) : C_X12_parts l g h x0  Q := ax_met rfl (Nat.le_of_ble_eq_true rfl) hb
