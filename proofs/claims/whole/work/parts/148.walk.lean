def C_X12_fault (l : Launch) (g : AG) (h : AH) (x0 : Nat)  (Q : Int32 → AH → Prop) : Prop := Ct l g mX12_fault 0 0 194 194 h [.ref x0] (ax_QI Q)
def L_X12_fault_0 (l : Launch) (g : AG) (h : AH) (x0 : Nat)  (Q : Int32 → AH → Prop) : Prop := Wp l g mX12_fault 0 0 194 194 194 0 [(0, .ref x0)] [] h (FM g 194 194 (ax_QI Q))
set_option maxRecDepth 100000 in
set_option maxHeartbeats 4000000 in
theorem s_X12_fault_0 {l : Launch} {g : AG} {h : AH} {x0 : Nat}  {Q : Int32 → AH → Prop} (hb : (Is 194 x0 11) ∧ ( ∀ h2 : AH, h2 = ax_setI h x0 0 0 → ( Q (h2.1 x0 3) h2))) : L_X12_fault_0 l g h x0  Q := by
  obtain ⟨i1, hb⟩ := hb
  refine wp_aload_n 0 dX12_fault_0 rfl rfl ?_
  refine wp_iconst (v := 0) dX12_fault_1 (by decide) ?_
  refine wp_putI dX12_fault_2 fl_X12_1 (Or.inl rfl) i1 ?_
  refine wp_topH (fun h2 e3 => ?_)
  have hb := hb h2 e3
  refine wp_aload_n 0 dX12_fault_5 rfl rfl ?_
  refine wp_getI dX12_fault_6 fl_X12_319 i1 ?_
  exact wp_iret rfl dX12_fault_9 ⟨_, rfl, hb⟩
theorem c_X12_fault {l : Launch} {g : AG} {h : AH} {x0 : Nat}  {Q : Int32 → AH → Prop} (hb : L_X12_fault_0 l g h x0  Q) : C_X12_fault l g h x0  Q := ax_met rfl (Nat.le_of_ble_eq_true rfl) hb
def C_X12_where (l : Launch) (g : AG) (h : AH) (x0 : Nat)  (Q : Int32 → AH → Prop) : Prop := Ct l g mX12_where 0 0 194 194 h [.ref x0] (ax_QI Q)
def L_X12_where_0 (l : Launch) (g : AG) (h : AH) (x0 : Nat)  (Q : Int32 → AH → Prop) : Prop := Wp l g mX12_where 0 0 194 194 194 0 [(0, .ref x0)] [] h (FM g 194 194 (ax_QI Q))
set_option maxRecDepth 100000 in
set_option maxHeartbeats 4000000 in
theorem s_X12_where_0 {l : Launch} {g : AG} {h : AH} {x0 : Nat}  {Q : Int32 → AH → Prop} (hb : (Is 194 x0 11) ∧ ( ∀ h2 : AH, h2 = ax_setI h x0 0 0 → ( Q (h2.1 x0 2) h2))) : L_X12_where_0 l g h x0  Q := by
  obtain ⟨i1, hb⟩ := hb
  refine wp_aload_n 0 dX12_where_0 rfl rfl ?_
  refine wp_iconst (v := 0) dX12_where_1 (by decide) ?_
  refine wp_putI dX12_where_2 fl_X12_1 (Or.inl rfl) i1 ?_
  refine wp_topH (fun h2 e3 => ?_)
  have hb := hb h2 e3
  refine wp_aload_n 0 dX12_where_5 rfl rfl ?_
  refine wp_getI dX12_where_6 fl_X12_10 i1 ?_
  exact wp_iret rfl dX12_where_9 ⟨_, rfl, hb⟩
theorem c_X12_where {l : Launch} {g : AG} {h : AH} {x0 : Nat}  {Q : Int32 → AH → Prop} (hb : L_X12_where_0 l g h x0  Q) : C_X12_where l g h x0  Q := ax_met rfl (Nat.le_of_ble_eq_true rfl) hb
def C_X12_about (l : Launch) (g : AG) (h : AH) (x0 : Nat) (x1 : Int32) (x2 : Int32)  (Q : Int32 → AH → Prop) : Prop := Ct l g mX12_about 1 21 194 194 h [.ref x0, .int x1, .int x2] (ax_QI Q)
def L_X12_about_0 (l : Launch) (g : AG) (h : AH) (x0 : Nat) (x1 : Int32) (x2 : Int32)  (Q : Int32 → AH → Prop) : Prop := Wp l g mX12_about 1 21 194 194 194 0 [(0, .ref x0), (1, .int x1), (2, .int x2)] [] h (FM g 194 194 (ax_QI Q))
def L_X12_about_82 (l : Launch) (g : AG) (h : AH) (x3 : Nat) (x4 : Int32) (x5 : Int32)  (Q : Int32 → AH → Prop) : Prop := Wp l g mX12_about 1 21 194 194 194 82 [(3, .ref x3), (4, .int x4), (5, .int x5)] [] h (FM g 194 194 (ax_QI Q))
def L_X12_about_123 (l : Launch) (g : AG) (h : AH) (x3 : Nat) (x4 : Int32) (x5 : Int32)  (Q : Int32 → AH → Prop) : Prop := Wp l g mX12_about 1 21 194 194 194 123 [(3, .ref x3), (4, .int x4), (5, .int x5)] [] h (FM g 194 194 (ax_QI Q))
def L_X12_about_156 (l : Launch) (g : AG) (h : AH) (x3 : Nat) (x4 : Int32) (x5 : Int32)  (Q : Int32 → AH → Prop) : Prop := Wp l g mX12_about 1 21 194 194 194 156 [(3, .ref x3), (4, .int x4), (5, .int x5)] [] h (FM g 194 194 (ax_QI Q))
set_option maxRecDepth 100000 in
set_option maxHeartbeats 4000000 in
theorem s_X12_about_0 {l : Launch} {g : AG} {h : AH} {x0 : Nat} {x1 : Int32} {x2 : Int32}  {Q : Int32 → AH → Prop} (hb : (Is 194 x0 11) ∧ ( ∀ h2 : AH, h2 = ax_setI h x0 0 0 → ( C_X12_isApp l g h2 x0 x1 (fun r6 h5 => ( ((¬ r6 = 0 → ((Is 194 (h5.2.2 x0 4) 25) ∧ ( (vp_in x1 (ax_s (h5.2.2 x0 4)).2) ∧ ( (Is 194 (h5.2.2 (h5.2.2 x0 4) x1.toNatClampNeg) 9) ∧ ( ∀ v11 : Nat, v11 = (h5.2.2 (h5.2.2 x0 4) x1.toNatClampNeg) → ( ((x2 = 0 → (Q (h5.1 v11 0) h5)) ∧ (¬ x2 = 0 → (((x2 = 1 → (Q (h5.1 v11 1) h5)) ∧ (¬ x2 = 1 → (((x2 = 2 → (Q (h5.1 v11 2) h5)) ∧ (¬ x2 = 2 → (((x2 = 3 → (L_X12_about_82 l g h5 v11 0 0  Q)) ∧ (¬ x2 = 3 → (((x2 = 4 → (L_X12_about_123 l g h5 v11 0 0  Q)) ∧ (¬ x2 = 4 → (((x2 = 5 → (L_X12_about_156 l g h5 v11 0 0  Q)) ∧ (¬ x2 = 5 → (Q (-1) h5)))))))))))))))))))))))) ∧ (r6 = 0 → (Q (-1) h5)))))))) : L_X12_about_0 l g h x0 x1 x2  Q := by
  obtain ⟨i1, hb⟩ := hb
  refine wp_aload_n 0 dX12_about_0 rfl rfl ?_
  refine wp_iconst (v := 0) dX12_about_1 (by decide) ?_
  refine wp_putI dX12_about_2 fl_X12_1 (Or.inl rfl) i1 ?_
  refine wp_topH (fun h2 e3 => ?_)
  have hb := hb h2 e3
  refine wp_aload_n 0 dX12_about_5 rfl rfl ?_
  refine wp_iload_n 1 dX12_about_6 rfl rfl ?_
  refine wp_callV (as := [.int x1]) dX12_about_7 cb_X12_isApp lk_X12_340 im_X12_isApp se_X12_isApp rfl (Nat.le_of_ble_eq_true rfl) ⟨by decide, by decide⟩ ⟨Nat.le_refl _, Nat.le_refl _, Nat.le_refl _⟩ i1 rfl (by decide) hb (fun r0 h5 hb => ?_)
  obtain ⟨r6, rfl, hb⟩ := hb
  refine wp_if_ne (tgt := 15) dX12_about_10 (by decide) (fun c7 => ?_) (fun c7 => ?_)
  · have hb := hb.1 c7
    refine wp_aload_n 0 dX12_about_15 rfl rfl ?_
    obtain ⟨i8, hb⟩ := hb
    refine wp_getR dX12_about_16 fl_X12_21 i1 (i8.ne (by decide)) ?_
    refine wp_iload_n 1 dX12_about_19 rfl rfl ?_
    obtain ⟨b9, hb⟩ := hb
    obtain ⟨i10, hb⟩ := hb
    refine wp_aaload25 dX12_about_20 i8 b9 (i10.ne (by decide)) ?_
    refine wp_topr (fun v11 e12 => ?_)
    have hb := hb v11 e12
    have i13 : Is 194 v11 9 := by rw [e12]; exact i10
    refine wp_astore_n (lv2 := [(3, .ref v11), (0, .ref x0), (1, .int x1), (2, .int x2)]) dX12_about_21 rfl (by decide) rfl ?_
    refine wp_iconst (v := 0) dX12_about_22 (by decide) ?_
    refine wp_istore (lv2 := [(4, .int 0), (3, .ref v11), (0, .ref x0), (1, .int x1), (2, .int x2)]) dX12_about_23 (by decide) rfl ?_
    refine wp_iload_n 4 dX12_about_25 rfl rfl ?_
    refine wp_case 0 (fun c14 => ?_) (fun c14 => ?_)
    · have hb := hb.1 c14
      refine wp_tableIn (v := 0) (tgt := 64) dX12_about_26 c14 (by decide) (by decide) rfl (by decide) ?_
      refine wp_aload_n 1 dX12_about_64 rfl rfl ?_
      refine wp_getI dX12_about_65 fl_X12_205 i13 ?_
      exact wp_iret rfl dX12_about_68 ⟨_, rfl, hb⟩
    · have hb := hb.2 c14
      refine wp_case 1 (fun c15 => ?_) (fun c15 => ?_)
      · have hb := hb.1 c15
        refine wp_tableIn (v := 1) (tgt := 69) dX12_about_26 c15 (by decide) (by decide) rfl (by decide) ?_
        refine wp_aload_n 1 dX12_about_69 rfl rfl ?_
        refine wp_getI dX12_about_70 fl_X12_208 i13 ?_
        exact wp_iret rfl dX12_about_73 ⟨_, rfl, hb⟩
      · have hb := hb.2 c15
        refine wp_case 2 (fun c16 => ?_) (fun c16 => ?_)
        · have hb := hb.1 c16
          refine wp_tableIn (v := 2) (tgt := 74) dX12_about_26 c16 (by decide) (by decide) rfl (by decide) ?_
          refine wp_aload_n 1 dX12_about_74 rfl rfl ?_
          refine wp_getI dX12_about_75 fl_X12_198 i13 ?_
          exact wp_iret rfl dX12_about_78 ⟨_, rfl, hb⟩
        · have hb := hb.2 c16
          refine wp_case 3 (fun c17 => ?_) (fun c17 => ?_)
          · have hb := hb.1 c17
            refine wp_tableIn (v := 3) (tgt := 79) dX12_about_26 c17 (by decide) (by decide) rfl (by decide) ?_
            refine wp_iconst (v := 0) dX12_about_79 (by decide) ?_
            refine wp_istore (lv2 := [(5, .int 0), (4, .int 0), (3, .ref v11), (0, .ref x0), (1, .int x1), (2, .int x2)]) dX12_about_80 (by decide) rfl ?_
            exact wp_sub [2, 1, 0] rfl hb
          · have hb := hb.2 c17
            refine wp_case 4 (fun c18 => ?_) (fun c18 => ?_)
            · have hb := hb.1 c18
              refine wp_tableIn (v := 4) (tgt := 120) dX12_about_26 c18 (by decide) (by decide) rfl (by decide) ?_
              refine wp_iconst (v := 0) dX12_about_120 (by decide) ?_
              refine wp_istore (lv2 := [(5, .int 0), (4, .int 0), (3, .ref v11), (0, .ref x0), (1, .int x1), (2, .int x2)]) dX12_about_121 (by decide) rfl ?_
              exact wp_sub [2, 1, 0] rfl hb
            · have hb := hb.2 c18
              refine wp_case 5 (fun c19 => ?_) (fun c19 => ?_)
              · have hb := hb.1 c19
                refine wp_tableIn (v := 5) (tgt := 153) dX12_about_26 c19 (by decide) (by decide) rfl (by decide) ?_
                refine wp_iconst (v := 0) dX12_about_153 (by decide) ?_
                refine wp_istore (lv2 := [(5, .int 0), (4, .int 0), (3, .ref v11), (0, .ref x0), (1, .int x1), (2, .int x2)]) dX12_about_154 (by decide) rfl ?_
                exact wp_sub [2, 1, 0] rfl hb
              · have hb := hb.2 c19
                refine wp_tableOut (tgt := 194) dX12_about_26 (by have zc14 := lv_neT (k := 0) (a := 0) c14 rfl; have zc15 := lv_neT (k := 1) (a := 1) c15 rfl; have zc16 := lv_neT (k := 2) (a := 2) c16 rfl; have zc17 := lv_neT (k := 3) (a := 3) c17 rfl; have zc18 := lv_neT (k := 4) (a := 4) c18 rfl; have zc19 := lv_neT (k := 5) (a := 5) c19 rfl; omega) (by decide) ?_
                refine wp_iconst (v := (-1)) dX12_about_194 (by decide) ?_
                exact wp_iret rfl dX12_about_195 ⟨_, rfl, hb⟩
  · have hb := hb.2 c7
    refine wp_iconst (v := (-1)) dX12_about_13 (by decide) ?_
    exact wp_iret rfl dX12_about_14 ⟨_, rfl, hb⟩
set_option maxRecDepth 100000 in
set_option maxHeartbeats 4000000 in
theorem s_X12_about_82 {l : Launch} {g : AG} {h : AH} {x3 : Nat} {x4 : Int32} {x5 : Int32}  {Q : Int32 → AH → Prop} (hb : (Is 194 x3 9) ∧ ( ((h.1 x3 2 ≤ x5 → (Q x4 h)) ∧ (¬ (h.1 x3 2 ≤ x5) → ((Is 194 (h.2.2 x3 10) 23) ∧ ( (vp_in x5 (ax_s (h.2.2 x3 10)).2) ∧ ( ((h.1 (h.2.2 x3 10) x5.toNatClampNeg = 0 → (∀ v25 : Int32, v25 = (x4 + 0) → ( ∀ v27 : Int32, v27 = x5 + (1) → ( L_X12_about_82 l g h x3 v25 v27  Q)))) ∧ (¬ (h.1 (h.2.2 x3 10) x5.toNatClampNeg = 0) → (∀ v29 : Int32, v29 = (x4 + 1) → ( ∀ v31 : Int32, v31 = x5 + (1) → ( L_X12_about_82 l g h x3 v29 v31  Q)))))))))))) : L_X12_about_82 l g h x3 x4 x5  Q := by
  refine wp_iload 2 dX12_about_82 rfl ?_
  obtain ⟨i20, hb⟩ := hb
  refine wp_aload_n 0 dX12_about_84 rfl rfl ?_
  refine wp_getI dX12_about_85 fl_X12_198 i20 ?_
  refine wp_icmp_ge (tgt := 117) dX12_about_88 (by decide) (fun c21 => ?_) (fun c21 => ?_)
  · have hb := hb.1 c21
    refine wp_iload 1 dX12_about_117 rfl ?_
    exact wp_iret rfl dX12_about_119 ⟨_, rfl, hb⟩
  · have hb := hb.2 c21
    refine wp_iload 1 dX12_about_91 rfl ?_
    refine wp_aload_n 0 dX12_about_93 rfl rfl ?_
    obtain ⟨i22, hb⟩ := hb
    refine wp_getR dX12_about_94 fl_X12_214 i20 (i22.ne (by decide)) ?_
    refine wp_iload 2 dX12_about_97 rfl ?_
    obtain ⟨b23, hb⟩ := hb
    refine wp_zaload dX12_about_99 i22 b23 ?_
    refine wp_if_eq (tgt := 107) dX12_about_100 (by decide) (fun c24 => ?_) (fun c24 => ?_)
    · have hb := hb.1 c24
      refine wp_iconst (v := 0) dX12_about_107 (by decide) ?_
      refine wp_iadd dX12_about_108 ?_
      refine wp_topi (fun v25 e26 => ?_)
      have hb := hb v25 e26
      refine wp_istore (lv2 := [(4, .int v25), (3, .ref x3), (5, .int x5)]) dX12_about_109 (by decide) rfl ?_
      obtain ⟨v27, e28⟩ : ∃ y : Int32, y = x5 + (1) := ⟨_, rfl⟩
      have hb := hb v27 e28
      refine wp_iinc (v := v27) (lv2 := [(5, .int v27), (4, .int v25), (3, .ref x3)]) 2 dX12_about_111 rfl (by rw [e28]; rfl) (by decide) rfl ?_
      refine wp_goto (tgt := 82) dX12_about_114 (by decide) ?_
      exact wp_sub [2, 1, 0] rfl hb
    · have hb := hb.2 c24
      refine wp_iconst (v := 1) dX12_about_103 (by decide) ?_
      refine wp_goto (tgt := 108) dX12_about_104 (by decide) ?_
      refine wp_iadd dX12_about_108 ?_
      refine wp_topi (fun v29 e30 => ?_)
      have hb := hb v29 e30
      refine wp_istore (lv2 := [(4, .int v29), (3, .ref x3), (5, .int x5)]) dX12_about_109 (by decide) rfl ?_
      obtain ⟨v31, e32⟩ : ∃ y : Int32, y = x5 + (1) := ⟨_, rfl⟩
      have hb := hb v31 e32
      refine wp_iinc (v := v31) (lv2 := [(5, .int v31), (4, .int v29), (3, .ref x3)]) 2 dX12_about_111 rfl (by rw [e32]; rfl) (by decide) rfl ?_
      refine wp_goto (tgt := 82) dX12_about_114 (by decide) ?_
      exact wp_sub [2, 1, 0] rfl hb
set_option maxRecDepth 100000 in
set_option maxHeartbeats 4000000 in
theorem s_X12_about_123 {l : Launch} {g : AG} {h : AH} {x3 : Nat} {x4 : Int32} {x5 : Int32}  {Q : Int32 → AH → Prop} (hb : (Is 194 x3 9) ∧ ( ((h.1 x3 0 ≤ x5 → (Q x4 h)) ∧ (¬ (h.1 x3 0 ≤ x5) → ((Is 194 (h.2.2 x3 7) 20) ∧ ( (vp_in x5 (ax_s (h.2.2 x3 7)).2) ∧ ( ∀ v37 : Int32, v37 = (x4 + (h.1 (h.2.2 x3 7) x5.toNatClampNeg)) → ( ∀ v39 : Int32, v39 = x5 + (1) → ( L_X12_about_123 l g h x3 v37 v39  Q))))))))) : L_X12_about_123 l g h x3 x4 x5  Q := by
  refine wp_iload 2 dX12_about_123 rfl ?_
  obtain ⟨i33, hb⟩ := hb
  refine wp_aload_n 0 dX12_about_125 rfl rfl ?_
  refine wp_getI dX12_about_126 fl_X12_205 i33 ?_
  refine wp_icmp_ge (tgt := 150) dX12_about_129 (by decide) (fun c34 => ?_) (fun c34 => ?_)
  · have hb := hb.1 c34
    refine wp_iload 1 dX12_about_150 rfl ?_
    exact wp_iret rfl dX12_about_152 ⟨_, rfl, hb⟩
  · have hb := hb.2 c34
    refine wp_iload 1 dX12_about_132 rfl ?_
    refine wp_aload_n 0 dX12_about_134 rfl rfl ?_
    obtain ⟨i35, hb⟩ := hb
    refine wp_getR dX12_about_135 fl_X12_252 i33 (i35.ne (by decide)) ?_
    refine wp_iload 2 dX12_about_138 rfl ?_
    obtain ⟨b36, hb⟩ := hb
    refine wp_iaload dX12_about_140 i35 b36 ?_
    refine wp_iadd dX12_about_141 ?_
    refine wp_topi (fun v37 e38 => ?_)
    have hb := hb v37 e38
    refine wp_istore (lv2 := [(4, .int v37), (3, .ref x3), (5, .int x5)]) dX12_about_142 (by decide) rfl ?_
    obtain ⟨v39, e40⟩ : ∃ y : Int32, y = x5 + (1) := ⟨_, rfl⟩
    have hb := hb v39 e40
    refine wp_iinc (v := v39) (lv2 := [(5, .int v39), (4, .int v37), (3, .ref x3)]) 2 dX12_about_144 rfl (by rw [e40]; rfl) (by decide) rfl ?_
    refine wp_goto (tgt := 123) dX12_about_147 (by decide) ?_
    exact wp_sub [2, 1, 0] rfl hb
set_option maxRecDepth 100000 in
set_option maxHeartbeats 4000000 in
theorem s_X12_about_156 {l : Launch} {g : AG} {h : AH} {x3 : Nat} {x4 : Int32} {x5 : Int32}  {Q : Int32 → AH → Prop} (hb : (Is 194 x3 9) ∧ ( ((h.1 x3 0 ≤ x5 → (Q x4 h)) ∧ (¬ (h.1 x3 0 ≤ x5) → ((Is 194 (h.2.2 x3 9) 20) ∧ ( (vp_in x5 (ax_s (h.2.2 x3 9)).2) ∧ ( ((h.1 (h.2.2 x3 9) x5.toNatClampNeg ≤ 0 → (∀ v46 : Int32, v46 = (x4 + 0) → ( ∀ v48 : Int32, v48 = x5 + (1) → ( L_X12_about_156 l g h x3 v46 v48  Q)))) ∧ (¬ (h.1 (h.2.2 x3 9) x5.toNatClampNeg ≤ 0) → (∀ v50 : Int32, v50 = (x4 + 1) → ( ∀ v52 : Int32, v52 = x5 + (1) → ( L_X12_about_156 l g h x3 v50 v52  Q)))))))))))) : L_X12_about_156 l g h x3 x4 x5  Q := by
  refine wp_iload 2 dX12_about_156 rfl ?_
  obtain ⟨i41, hb⟩ := hb
  refine wp_aload_n 0 dX12_about_158 rfl rfl ?_
  refine wp_getI dX12_about_159 fl_X12_205 i41 ?_
  refine wp_icmp_ge (tgt := 191) dX12_about_162 (by decide) (fun c42 => ?_) (fun c42 => ?_)
  · have hb := hb.1 c42
    refine wp_iload 1 dX12_about_191 rfl ?_
    exact wp_iret rfl dX12_about_193 ⟨_, rfl, hb⟩
  · have hb := hb.2 c42
    refine wp_iload 1 dX12_about_165 rfl ?_
    refine wp_aload_n 0 dX12_about_167 rfl rfl ?_
    obtain ⟨i43, hb⟩ := hb
    refine wp_getR dX12_about_168 fl_X12_234 i41 (i43.ne (by decide)) ?_
    refine wp_iload 2 dX12_about_171 rfl ?_
    obtain ⟨b44, hb⟩ := hb
    refine wp_iaload dX12_about_173 i43 b44 ?_
    refine wp_if_le (tgt := 181) dX12_about_174 (by decide) (fun c45 => ?_) (fun c45 => ?_)
    · have hb := hb.1 c45
      refine wp_iconst (v := 0) dX12_about_181 (by decide) ?_
      refine wp_iadd dX12_about_182 ?_
      refine wp_topi (fun v46 e47 => ?_)
      have hb := hb v46 e47
      refine wp_istore (lv2 := [(4, .int v46), (3, .ref x3), (5, .int x5)]) dX12_about_183 (by decide) rfl ?_
      obtain ⟨v48, e49⟩ : ∃ y : Int32, y = x5 + (1) := ⟨_, rfl⟩
      have hb := hb v48 e49
      refine wp_iinc (v := v48) (lv2 := [(5, .int v48), (4, .int v46), (3, .ref x3)]) 2 dX12_about_185 rfl (by rw [e49]; rfl) (by decide) rfl ?_
      refine wp_goto (tgt := 156) dX12_about_188 (by decide) ?_
      exact wp_sub [2, 1, 0] rfl hb
    · have hb := hb.2 c45
      refine wp_iconst (v := 1) dX12_about_177 (by decide) ?_
      refine wp_goto (tgt := 182) dX12_about_178 (by decide) ?_
      refine wp_iadd dX12_about_182 ?_
      refine wp_topi (fun v50 e51 => ?_)
      have hb := hb v50 e51
      refine wp_istore (lv2 := [(4, .int v50), (3, .ref x3), (5, .int x5)]) dX12_about_183 (by decide) rfl ?_
      obtain ⟨v52, e53⟩ : ∃ y : Int32, y = x5 + (1) := ⟨_, rfl⟩
      have hb := hb v52 e53
      refine wp_iinc (v := v52) (lv2 := [(5, .int v52), (4, .int v50), (3, .ref x3)]) 2 dX12_about_185 rfl (by rw [e53]; rfl) (by decide) rfl ?_
      refine wp_goto (tgt := 156) dX12_about_188 (by decide) ?_
      exact wp_sub [2, 1, 0] rfl hb
theorem c_X12_about {l : Launch} {g : AG} {h : AH} {x0 : Nat} {x1 : Int32} {x2 : Int32}  {Q : Int32 → AH → Prop} (hb : L_X12_about_0 l g h x0 x1 x2  Q) : C_X12_about l g h x0 x1 x2  Q := ax_met rfl (Nat.le_of_ble_eq_true rfl) hb
