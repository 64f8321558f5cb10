def C_X12_readDeeds (l : Launch) (g : AG) (h : AH) (x0 : Nat) (x1 : Int32)  (Q : AH → Prop) (X : AH → Prop) : Prop := Cx l g mX12_readDeeds 6 164 194 194 h [.ref x0, .int x1] (ax_QV Q) X
def L_X12_readDeeds_0 (l : Launch) (g : AG) (h : AH) (x0 : Nat) (x1 : Int32)  (Q : AH → Prop) (X : AH → Prop) : Prop := Wp l g mX12_readDeeds 6 164 194 194 194 0 [(0, .ref x0), (1, .int x1)] [] h (FX g 194 194 (ax_QV Q) X)
def L_X12_readDeeds_14 (l : Launch) (g : AG) (h : AH) (x0 : Nat) (x1 : Int32) (x2 : Nat) (x3 : Int32)  (Q : AH → Prop) (X : AH → Prop) : Prop := Wp l g mX12_readDeeds 6 164 194 194 194 14 [(0, .ref x0), (1, .int x1), (2, .ref x2), (3, .int x3)] [] h (FX g 194 194 (ax_QV Q) X)
def L_X12_readDeeds_89 (l : Launch) (g : AG) (h : AH) (x0 : Nat) (x1 : Int32) (x2 : Nat) (s0 : Int32) (Q : AH → Prop) (X : AH → Prop) : Prop := Wp l g mX12_readDeeds 6 164 194 194 194 89 [(0, .ref x0), (1, .int x1), (2, .ref x2)] [.int s0] h (FX g 194 194 (ax_QV Q) X)
def L_X12_readDeeds_287 (l : Launch) (g : AG) (h : AH) (x0 : Nat) (x1 : Int32) (x2 : Nat)  (Q : AH → Prop) (X : AH → Prop) : Prop := Wp l g mX12_readDeeds 6 164 194 194 194 287 [(0, .ref x0), (1, .int x1), (2, .ref x2)] [] h (FX g 194 194 (ax_QV Q) X)
def L_X12_readDeeds_286 (l : Launch) (g : AG) (h : AH) (x0 : Nat) (x1 : Int32) (x2 : Nat) (s0 : Int32) (s1 : Int32) (s2 : Nat) (Q : AH → Prop) (X : AH → Prop) : Prop := Wp l g mX12_readDeeds 6 164 194 194 194 286 [(0, .ref x0), (1, .int x1), (2, .ref x2)] [.int s0, .int s1, .ref s2] h (FX g 194 194 (ax_QV Q) X)
set_option maxRecDepth 100000 in
set_option maxHeartbeats 4000000 in
theorem s_X12_readDeeds_0 {l : Launch} {g : AG} {h : AH} {x0 : Nat} {x1 : Int32}  {Q : AH → Prop} {X : AH → Prop} (hb : (Is 194 x0 11) ∧ ( (Is 194 (h.2.2 x0 5) 9) ∧ ( ∀ v3 : Nat, v3 = (h.2.2 x0 5) → ( (Is 194 (h.2.2 v3 11) 20) ∧ ( (vp_in x1 (ax_s (h.2.2 v3 11)).2) ∧ ( ∀ h8 : AH, h8 = ax_setI h (h.2.2 v3 11) x1.toNatClampNeg 0 → ( L_X12_readDeeds_14 l g h8 x0 x1 v3 1  Q X))))))) : L_X12_readDeeds_0 l g h x0 x1  Q X := by
  obtain ⟨i1, hb⟩ := hb
  refine wp_aload_n 0 dX12_readDeeds_0 rfl rfl ?_
  obtain ⟨i2, hb⟩ := hb
  refine wp_getR dX12_readDeeds_1 fl_X12_26 i1 (i2.ne (by decide)) ?_
  refine wp_topr (fun v3 e4 => ?_)
  have hb := hb v3 e4
  have i5 : Is 194 v3 9 := by rw [e4]; exact i2
  refine wp_astore_n (lv2 := [(2, .ref v3), (0, .ref x0), (1, .int x1)]) dX12_readDeeds_4 rfl (by decide) rfl ?_
  refine wp_aload_n 0 dX12_readDeeds_5 rfl rfl ?_
  obtain ⟨i6, hb⟩ := hb
  refine wp_getR dX12_readDeeds_6 fl_X12_237 i5 (i6.ne (by decide)) ?_
  refine wp_iload_n 2 dX12_readDeeds_9 rfl rfl ?_
  refine wp_iconst (v := 0) dX12_readDeeds_10 (by decide) ?_
  obtain ⟨b7, hb⟩ := hb
  refine wp_iastore dX12_readDeeds_11 i6 b7 ?_
  refine wp_topH (fun h8 e9 => ?_)
  have hb := hb h8 e9
  refine wp_iconst (v := 1) dX12_readDeeds_12 (by decide) ?_
  refine wp_istore_n (lv2 := [(3, .int 1), (2, .ref v3), (0, .ref x0), (1, .int x1)]) dX12_readDeeds_13 rfl (by decide) rfl ?_
  exact wp_sub [2, 3, 1, 0] rfl hb
set_option maxRecDepth 100000 in
set_option maxHeartbeats 4000000 in
theorem s_X12_readDeeds_14 {l : Launch} {g : AG} {h : AH} {x0 : Nat} {x1 : Int32} {x2 : Nat} {x3 : Int32}  {Q : AH → Prop} {X : AH → Prop} (hb : ((x3 = 0 → (Q h)) ∧ (¬ (x3 = 0) → ((Is 194 x0 11) ∧ ( C_X12_isWord l g h x0 1009 (fun r14 h13 => ( ((r14 = 0 → (C_X12_isWord l g h13 x0 1004 (fun r18 h17 => ( ((r18 = 0 → (C_X12_isWord l g h17 x0 1010 (fun r22 h21 => ( ((r22 = 0 → (C_X12_isWord l g h21 x0 1000 (fun r26 h25 => ( ((r26 = 0 → (C_X12_isWord l g h25 x0 1006 (fun r30 h29 => ( ((r30 = 0 → (L_X12_readDeeds_89 l g h29 x0 x1 x2 (-1) Q X)) ∧ (¬ (r30 = 0) → (L_X12_readDeeds_89 l g h29 x0 x1 x2 4 Q X))))))) ∧ (¬ (r26 = 0) → (L_X12_readDeeds_89 l g h25 x0 x1 x2 3 Q X))))))) ∧ (¬ (r22 = 0) → (L_X12_readDeeds_89 l g h21 x0 x1 x2 2 Q X))))))) ∧ (¬ (r18 = 0) → (L_X12_readDeeds_89 l g h17 x0 x1 x2 1 Q X))))))) ∧ (¬ (r14 = 0) → (L_X12_readDeeds_89 l g h13 x0 x1 x2 0 Q X)))))))))) : L_X12_readDeeds_14 l g h x0 x1 x2 x3  Q X := by
  refine wp_iload_n 3 dX12_readDeeds_14 rfl rfl ?_
  refine wp_if_eq (tgt := 315) dX12_readDeeds_15 (by decide) (fun c10 => ?_) (fun c10 => ?_)
  · have hb := hb.1 c10
    exact wx_of (wp_vret rfl dX12_readDeeds_315 ⟨rfl, hb⟩)
  · have hb := hb.2 c10
    obtain ⟨i11, hb⟩ := hb
    refine wp_aload_n 0 dX12_readDeeds_18 rfl rfl ?_
    refine wp_ldcSw (q := ("WindowHouseModel", 300, "open", 9)) dX12_readDeeds_19 (by decide +kernel) rfl rfl (by decide) ?_
    refine wp_callV (as := [.ref 1009]) dX12_readDeeds_22 cb_X12_isWord lk_X12_191 im_X12_isWord se_X12_isWord rfl (Nat.le_of_ble_eq_true rfl) ⟨by decide, by decide⟩ ⟨Nat.le_refl _, Nat.le_refl _, Nat.le_refl _⟩ i11 rfl (by decide) hb (fun r0 h13 hb => ?_)
    obtain ⟨r14, rfl, hb⟩ := hb
    refine wp_if_eq (tgt := 32) dX12_readDeeds_25 (by decide) (fun c15 => ?_) (fun c15 => ?_)
    · have hb := hb.1 c15
      refine wp_aload_n 0 dX12_readDeeds_32 rfl rfl ?_
      refine wp_ldcSw (q := ("WindowHouseModel", 302, "close", 4)) dX12_readDeeds_33 (by decide +kernel) rfl rfl (by decide) ?_
      refine wp_callV (as := [.ref 1004]) dX12_readDeeds_36 cb_X12_isWord lk_X12_191 im_X12_isWord se_X12_isWord rfl (Nat.le_of_ble_eq_true rfl) ⟨by decide, by decide⟩ ⟨Nat.le_refl _, Nat.le_refl _, Nat.le_refl _⟩ i11 rfl (by decide) hb (fun r0 h17 hb => ?_)
      obtain ⟨r18, rfl, hb⟩ := hb
      refine wp_if_eq (tgt := 46) dX12_readDeeds_39 (by decide) (fun c19 => ?_) (fun c19 => ?_)
      · have hb := hb.1 c19
        refine wp_aload_n 0 dX12_readDeeds_46 rfl rfl ?_
        refine wp_ldcSw (q := ("WindowHouseModel", 304, "set", 10)) dX12_readDeeds_47 (by decide +kernel) rfl rfl (by decide) ?_
        refine wp_callV (as := [.ref 1010]) dX12_readDeeds_50 cb_X12_isWord lk_X12_191 im_X12_isWord se_X12_isWord rfl (Nat.le_of_ble_eq_true rfl) ⟨by decide, by decide⟩ ⟨Nat.le_refl _, Nat.le_refl _, Nat.le_refl _⟩ i11 rfl (by decide) hb (fun r0 h21 hb => ?_)
        obtain ⟨r22, rfl, hb⟩ := hb
        refine wp_if_eq (tgt := 60) dX12_readDeeds_53 (by decide) (fun c23 => ?_) (fun c23 => ?_)
        · have hb := hb.1 c23
          refine wp_aload_n 0 dX12_readDeeds_60 rfl rfl ?_
          refine wp_ldcSw (q := ("WindowHouseModel", 306, "add", 0)) dX12_readDeeds_61 (by decide +kernel) rfl rfl (by decide) ?_
          refine wp_callV (as := [.ref 1000]) dX12_readDeeds_64 cb_X12_isWord lk_X12_191 im_X12_isWord se_X12_isWord rfl (Nat.le_of_ble_eq_true rfl) ⟨by decide, by decide⟩ ⟨Nat.le_refl _, Nat.le_refl _, Nat.le_refl _⟩ i11 rfl (by decide) hb (fun r0 h25 hb => ?_)
          obtain ⟨r26, rfl, hb⟩ := hb
          refine wp_if_eq (tgt := 74) dX12_readDeeds_67 (by decide) (fun c27 => ?_) (fun c27 => ?_)
          · have hb := hb.1 c27
            refine wp_aload_n 0 dX12_readDeeds_74 rfl rfl ?_
            refine wp_ldcSw (q := ("WindowHouseModel", 308, "fault", 6)) dX12_readDeeds_75 (by decide +kernel) rfl rfl (by decide) ?_
            refine wp_callV (as := [.ref 1006]) dX12_readDeeds_78 cb_X12_isWord lk_X12_191 im_X12_isWord se_X12_isWord rfl (Nat.le_of_ble_eq_true rfl) ⟨by decide, by decide⟩ ⟨Nat.le_refl _, Nat.le_refl _, Nat.le_refl _⟩ i11 rfl (by decide) hb (fun r0 h29 hb => ?_)
            obtain ⟨r30, rfl, hb⟩ := hb
            refine wp_if_eq (tgt := 88) dX12_readDeeds_81 (by decide) (fun c31 => ?_) (fun c31 => ?_)
            · have hb := hb.1 c31
              refine wp_iconst (v := (-1)) dX12_readDeeds_88 (by decide) ?_
              exact wp_sub [0, 1, 2] rfl hb
            · have hb := hb.2 c31
              refine wp_iconst (v := 4) dX12_readDeeds_84 (by decide) ?_
              refine wp_goto (tgt := 89) dX12_readDeeds_85 (by decide) ?_
              exact wp_sub [0, 1, 2] rfl hb
          · have hb := hb.2 c27
            refine wp_iconst (v := 3) dX12_readDeeds_70 (by decide) ?_
            refine wp_goto (tgt := 89) dX12_readDeeds_71 (by decide) ?_
            exact wp_sub [0, 1, 2] rfl hb
        · have hb := hb.2 c23
          refine wp_iconst (v := 2) dX12_readDeeds_56 (by decide) ?_
          refine wp_goto (tgt := 89) dX12_readDeeds_57 (by decide) ?_
          exact wp_sub [0, 1, 2] rfl hb
      · have hb := hb.2 c19
        refine wp_iconst (v := 1) dX12_readDeeds_42 (by decide) ?_
        refine wp_goto (tgt := 89) dX12_readDeeds_43 (by decide) ?_
        exact wp_sub [0, 1, 2] rfl hb
    · have hb := hb.2 c15
      refine wp_iconst (v := 0) dX12_readDeeds_28 (by decide) ?_
      refine wp_goto (tgt := 89) dX12_readDeeds_29 (by decide) ?_
      exact wp_sub [0, 1, 2] rfl hb
set_option maxRecDepth 100000 in
set_option maxHeartbeats 4000000 in
theorem s_X12_readDeeds_89 {l : Launch} {g : AG} {h : AH} {x0 : Nat} {x1 : Int32} {x2 : Nat} {s0 : Int32} {Q : AH → Prop} {X : AH → Prop} (hb : ((¬ s0 = (-1) → ((Is 194 x2 9) ∧ ( (Is 194 (h.2.2 x2 11) 20) ∧ ( (vp_in x1 (ax_s (h.2.2 x2 11)).2) ∧ ( ((¬ h.1 (h.2.2 x2 11) x1.toNatClampNeg = 4 → ((Is 194 (h.2.2 x2 11) 20) ∧ ( (vp_in x1 (ax_s (h.2.2 x2 11)).2) ∧ ( ∀ v39 : Int32, v39 = ((4 * x1) + (h.1 (h.2.2 x2 11) x1.toNatClampNeg)) → ( (Is 194 (h.2.2 x2 12) 20) ∧ ( (vp_in v39 (ax_s (h.2.2 x2 12)).2) ∧ ( ∀ h43 : AH, h43 = ax_setI h (h.2.2 x2 12) v39.toNatClampNeg s0 → ( (Is 194 x0 11) ∧ ( C_X12_next l g h43 x0 (fun h47 => ( ((¬ s0 = 0 → (((¬ s0 = 4 → (((s0 ≤ 1 → (L_X12_readDeeds_287 l g h47 x0 x1 x2  Q X)) ∧ (¬ (s0 ≤ 1) → (C_X12_varHere l g h47 x0 (fun r53 h52 => ( (Is 194 (h52.2.2 x2 13) 20) ∧ ( (vp_in v39 (ax_s (h52.2.2 x2 13)).2) ∧ ( ∀ h56 : AH, h56 = ax_setI h52 (h52.2.2 x2 13) v39.toNatClampNeg r53 → ( C_X12_next l g h56 x0 (fun h59 => ( (Is 194 (h59.2.2 x2 14) 20) ∧ ( ((¬ s0 = 2 → (C_X12_needNumber l g h59 x0 1 9 (fun r64 h63 => ( L_X12_readDeeds_286 l g h63 x0 x1 x2 r64 v39 (h59.2.2 x2 14) Q X)) X)) ∧ (s0 = 2 → ((Is 194 (h59.2.2 x2 6) 20) ∧ ( (vp_in r53 (ax_s (h59.2.2 x2 6)).2) ∧ ( C_X12_needNumber l g h59 x0 0 (h59.1 (h59.2.2 x2 6) r53.toNatClampNeg) (fun r69 h68 => ( L_X12_readDeeds_286 l g h68 x0 x1 x2 r69 v39 (h59.2.2 x2 14) Q X)) X))))))))))))) X))))) ∧ (s0 = 4 → ((Is 194 (h47.2.2 x2 13) 20) ∧ ( C_X12_needNumber l g h47 x0 1 20 (fun r73 h72 => ( (vp_in v39 (ax_s (h47.2.2 x2 13)).2) ∧ ( ∀ h75 : AH, h75 = ax_setI h72 (h47.2.2 x2 13) v39.toNatClampNeg r73 → ( L_X12_readDeeds_287 l g h75 x0 x1 x2  Q X)))) X)))))) ∧ (s0 = 0 → (((h47.1 x0 14 = 2 → ((Is 194 (h47.2.2 x2 15) 21) ∧ ( (vp_in v39 (ax_s (h47.2.2 x2 15)).2) ∧ ( ∀ h80 : AH, h80 = ax_setL h47 (h47.2.2 x2 15) v39.toNatClampNeg (h47.2.1 x0 18) → ( (Is 194 (h80.2.2 x2 16) 20) ∧ ( (vp_in v39 (ax_s (h80.2.2 x2 16)).2) ∧ ( ∀ h84 : AH, h84 = ax_setI h80 (h80.2.2 x2 16) v39.toNatClampNeg (h80.1 x0 15) → ( C_X12_next l g h84 x0 (fun h87 => ( L_X12_readDeeds_287 l g h87 x0 x1 x2  Q X)))))))))) ∧ (¬ (h47.1 x0 14 = 2) → (C_X12_stop l g h47 x0 1 (h47.1 x0 15) (fun r90 h89 => ( (r90 = 128) ∧ ( X h89)))))))))))))))))))) ∧ (h.1 (h.2.2 x2 11) x1.toNatClampNeg = 4 → ((Is 194 x0 11) ∧ ( C_X12_stop l g h x0 5 (h.1 x0 15) (fun r95 h94 => ( (r95 = 128) ∧ ( X h94)))))))))))) ∧ (s0 = (-1) → ((Is 194 x0 11) ∧ ( C_X12_stop l g h x0 1 (h.1 x0 15) (fun r100 h99 => ( (r100 = 128) ∧ ( X h99)))))))) : L_X12_readDeeds_89 l g h x0 x1 x2 s0 Q X := by
  refine wp_istore (lv2 := [(4, .int s0), (0, .ref x0), (1, .int x1), (2, .ref x2)]) dX12_readDeeds_89 (by decide) rfl ?_
  refine wp_iload 0 dX12_readDeeds_91 rfl ?_
  refine wp_iconst (v := (-1)) dX12_readDeeds_93 (by decide) ?_
  refine wp_icmp_ne (tgt := 107) dX12_readDeeds_94 (by decide) (fun c32 => ?_) (fun c32 => ?_)
  · have hb := hb.1 c32
    obtain ⟨i33, hb⟩ := hb
    refine wp_aload_n 3 dX12_readDeeds_107 rfl rfl ?_
    obtain ⟨i34, hb⟩ := hb
    refine wp_getR dX12_readDeeds_108 fl_X12_237 i33 (i34.ne (by decide)) ?_
    refine wp_iload_n 2 dX12_readDeeds_111 rfl rfl ?_
    obtain ⟨b35, hb⟩ := hb
    refine wp_iaload dX12_readDeeds_112 i34 b35 ?_
    refine wp_iconst (v := 4) dX12_readDeeds_113 (by decide) ?_
    refine wp_icmp_ne (tgt := 127) dX12_readDeeds_114 (by decide) (fun c36 => ?_) (fun c36 => ?_)
    · have hb := hb.1 c36
      refine wp_iconst (v := 4) dX12_readDeeds_127 (by decide) ?_
      refine wp_iload_n 2 dX12_readDeeds_128 rfl rfl ?_
      refine wp_imul dX12_readDeeds_129 ?_
      refine wp_aload_n 3 dX12_readDeeds_130 rfl rfl ?_
      obtain ⟨i37, hb⟩ := hb
      refine wp_getR dX12_readDeeds_131 fl_X12_237 i33 (i37.ne (by decide)) ?_
      refine wp_iload_n 2 dX12_readDeeds_134 rfl rfl ?_
      obtain ⟨b38, hb⟩ := hb
      refine wp_iaload dX12_readDeeds_135 i37 b38 ?_
      refine wp_iadd dX12_readDeeds_136 ?_
      refine wp_topi (fun v39 e40 => ?_)
      have hb := hb v39 e40
      refine wp_istore (lv2 := [(5, .int v39), (4, .int s0), (0, .ref x0), (1, .int x1), (2, .ref x2)]) dX12_readDeeds_137 (by decide) rfl ?_
      refine wp_aload_n 4 dX12_readDeeds_139 rfl rfl ?_
      obtain ⟨i41, hb⟩ := hb
      refine wp_getR dX12_readDeeds_140 fl_X12_240 i33 (i41.ne (by decide)) ?_
      refine wp_iload 0 dX12_readDeeds_143 rfl ?_
      refine wp_iload 1 dX12_readDeeds_145 rfl ?_
      obtain ⟨b42, hb⟩ := hb
      refine wp_iastore dX12_readDeeds_147 i41 b42 ?_
      refine wp_topH (fun h43 e44 => ?_)
      have hb := hb h43 e44
      obtain ⟨i45, hb⟩ := hb
      refine wp_aload_n 2 dX12_readDeeds_148 rfl rfl ?_
      refine wp_callV (as := []) dX12_readDeeds_149 cb_X12_next lk_X12_188 im_X12_next se_X12_next rfl (Nat.le_of_ble_eq_true rfl) ⟨by decide, by decide⟩ ⟨Nat.le_refl _, Nat.le_refl _, Nat.le_refl _⟩ i45 rfl (by decide) hb (fun r0 h47 hb => ?_)
      obtain ⟨rfl, hb⟩ := hb
      refine wp_iload 1 dX12_readDeeds_152 rfl ?_
      refine wp_if_ne (tgt := 204) dX12_readDeeds_154 (by decide) (fun c48 => ?_) (fun c48 => ?_)
      · have hb := hb.1 c48
        refine wp_iload 1 dX12_readDeeds_204 rfl ?_
        refine wp_iconst (v := 4) dX12_readDeeds_206 (by decide) ?_
        refine wp_icmp_ne (tgt := 227) dX12_readDeeds_207 (by decide) (fun c49 => ?_) (fun c49 => ?_)
        · have hb := hb.1 c49
          refine wp_iload 1 dX12_readDeeds_227 rfl ?_
          refine wp_iconst (v := 1) dX12_readDeeds_229 (by decide) ?_
          refine wp_icmp_le (tgt := 287) dX12_readDeeds_230 (by decide) (fun c50 => ?_) (fun c50 => ?_)
          · have hb := hb.1 c50
            exact wp_sub [2, 3, 4] rfl hb
          · have hb := hb.2 c50
            refine wp_aload_n 2 dX12_readDeeds_233 rfl rfl ?_
            refine wx_callV (as := []) dX12_readDeeds_234 cb_X12_varHere lk_X12_259 im_X12_varHere se_X12_varHere rfl (Nat.le_of_ble_eq_true rfl) ⟨by decide, by decide⟩ (Nat.le_refl _) i45 rfl (by decide) (by decide) rfl hb (fun r0 h52 hb => ?_) (fun _ hx => hx)
            obtain ⟨r53, rfl, hb⟩ := hb
            refine wp_istore (lv2 := [(6, .int r53), (5, .int v39), (4, .int s0), (0, .ref x0), (1, .int x1), (2, .ref x2)]) dX12_readDeeds_237 (by decide) rfl ?_
            refine wp_aload_n 5 dX12_readDeeds_239 rfl rfl ?_
            obtain ⟨i54, hb⟩ := hb
            refine wp_getR dX12_readDeeds_240 fl_X12_243 i33 (i54.ne (by decide)) ?_
            refine wp_iload 1 dX12_readDeeds_243 rfl ?_
            refine wp_iload 0 dX12_readDeeds_245 rfl ?_
            obtain ⟨b55, hb⟩ := hb
            refine wp_iastore dX12_readDeeds_247 i54 b55 ?_
            refine wp_topH (fun h56 e57 => ?_)
            have hb := hb h56 e57
            refine wp_aload_n 3 dX12_readDeeds_248 rfl rfl ?_
            refine wp_callV (as := []) dX12_readDeeds_249 cb_X12_next lk_X12_188 im_X12_next se_X12_next rfl (Nat.le_of_ble_eq_true rfl) ⟨by decide, by decide⟩ ⟨Nat.le_refl _, Nat.le_refl _, Nat.le_refl _⟩ i45 rfl (by decide) hb (fun r0 h59 hb => ?_)
            obtain ⟨rfl, hb⟩ := hb
            refine wp_aload_n 5 dX12_readDeeds_252 rfl rfl ?_
            obtain ⟨i60, hb⟩ := hb
            refine wp_getR dX12_readDeeds_253 fl_X12_310 i33 (i60.ne (by decide)) ?_
            refine wp_iload 1 dX12_readDeeds_256 rfl ?_
            refine wp_iload 2 dX12_readDeeds_258 rfl ?_
            refine wp_iconst (v := 2) dX12_readDeeds_260 (by decide) ?_
            refine wp_icmp_ne (tgt := 279) dX12_readDeeds_261 (by decide) (fun c61 => ?_) (fun c61 => ?_)
            · have hb := hb.1 c61
              refine wp_aload_n 3 dX12_readDeeds_279 rfl rfl ?_
              refine wp_iconst (v := 1) dX12_readDeeds_280 (by decide) ?_
              refine wp_bipush (v := 9) dX12_readDeeds_281 (by decide) ?_
              refine wx_callV (as := [.int 1, .int 9]) dX12_readDeeds_283 cb_X12_needNumber lk_X12_219 im_X12_needNumber se_X12_needNumber rfl (Nat.le_of_ble_eq_true rfl) ⟨by decide, by decide⟩ (Nat.le_refl _) i45 rfl (by decide) (by decide) rfl hb (fun r0 h63 hb => ?_) (fun _ hx => hx)
              obtain ⟨r64, rfl, hb⟩ := hb
              exact wp_sub [3, 4, 5] rfl hb
            · have hb := hb.2 c61
              refine wp_aload_n 3 dX12_readDeeds_264 rfl rfl ?_
              refine wp_iconst (v := 0) dX12_readDeeds_265 (by decide) ?_
              refine wp_aload_n 5 dX12_readDeeds_266 rfl rfl ?_
              obtain ⟨i65, hb⟩ := hb
              refine wp_getR dX12_readDeeds_267 fl_X12_216 i33 (i65.ne (by decide)) ?_
              refine wp_iload 0 dX12_readDeeds_270 rfl ?_
              obtain ⟨b66, hb⟩ := hb
              refine wp_iaload dX12_readDeeds_272 i65 b66 ?_
              refine wx_callV (as := [.int 0, .int (h59.1 (h59.2.2 x2 6) r53.toNatClampNeg)]) dX12_readDeeds_273 cb_X12_needNumber lk_X12_219 im_X12_needNumber se_X12_needNumber rfl (Nat.le_of_ble_eq_true rfl) ⟨by decide, by decide⟩ (Nat.le_refl _) i45 rfl (by decide) (by decide) rfl hb (fun r0 h68 hb => ?_) (fun _ hx => hx)
              obtain ⟨r69, rfl, hb⟩ := hb
              refine wp_goto (tgt := 286) dX12_readDeeds_276 (by decide) ?_
              exact wp_sub [3, 4, 5] rfl hb
        · have hb := hb.2 c49
          refine wp_aload_n 4 dX12_readDeeds_210 rfl rfl ?_
          obtain ⟨i70, hb⟩ := hb
          refine wp_getR dX12_readDeeds_211 fl_X12_243 i33 (i70.ne (by decide)) ?_
          refine wp_iload 0 dX12_readDeeds_214 rfl ?_
          refine wp_aload_n 2 dX12_readDeeds_216 rfl rfl ?_
          refine wp_iconst (v := 1) dX12_readDeeds_217 (by decide) ?_
          refine wp_bipush (v := 20) dX12_readDeeds_218 (by decide) ?_
          refine wx_callV (as := [.int 1, .int 20]) dX12_readDeeds_220 cb_X12_needNumber lk_X12_219 im_X12_needNumber se_X12_needNumber rfl (Nat.le_of_ble_eq_true rfl) ⟨by decide, by decide⟩ (Nat.le_refl _) i45 rfl (by decide) (by decide) rfl hb (fun r0 h72 hb => ?_) (fun _ hx => hx)
          obtain ⟨r73, rfl, hb⟩ := hb
          obtain ⟨b74, hb⟩ := hb
          refine wp_iastore dX12_readDeeds_223 i70 b74 ?_
          refine wp_topH (fun h75 e76 => ?_)
          have hb := hb h75 e76
          refine wp_goto (tgt := 287) dX12_readDeeds_224 (by decide) ?_
          exact wp_sub [2, 3, 4] rfl hb
      · have hb := hb.2 c48
        refine wp_aload_n 2 dX12_readDeeds_157 rfl rfl ?_
        refine wp_getI dX12_readDeeds_158 fl_X12_159 i45 ?_
        refine wp_iconst (v := 2) dX12_readDeeds_161 (by decide) ?_
        refine wp_icmp_eq (tgt := 175) dX12_readDeeds_162 (by decide) (fun c77 => ?_) (fun c77 => ?_)
        · have hb := hb.1 c77
          refine wp_aload_n 4 dX12_readDeeds_175 rfl rfl ?_
          obtain ⟨i78, hb⟩ := hb
          refine wp_getR dX12_readDeeds_176 fl_X12_246 i33 (i78.ne (by decide)) ?_
          refine wp_iload 0 dX12_readDeeds_179 rfl ?_
          refine wp_aload_n 2 dX12_readDeeds_181 rfl rfl ?_
          refine wp_getL dX12_readDeeds_182 fl_X12_169 i45 ?_
          obtain ⟨b79, hb⟩ := hb
          refine wp_lastore dX12_readDeeds_185 i78 b79 ?_
          refine wp_topH (fun h80 e81 => ?_)
          have hb := hb h80 e81
          refine wp_aload_n 4 dX12_readDeeds_186 rfl rfl ?_
          obtain ⟨i82, hb⟩ := hb
          refine wp_getR dX12_readDeeds_187 fl_X12_249 i33 (i82.ne (by decide)) ?_
          refine wp_iload 0 dX12_readDeeds_190 rfl ?_
          refine wp_aload_n 2 dX12_readDeeds_192 rfl rfl ?_
          refine wp_getI dX12_readDeeds_193 fl_X12_158 i45 ?_
          obtain ⟨b83, hb⟩ := hb
          refine wp_iastore dX12_readDeeds_196 i82 b83 ?_
          refine wp_topH (fun h84 e85 => ?_)
          have hb := hb h84 e85
          refine wp_aload_n 2 dX12_readDeeds_197 rfl rfl ?_
          refine wp_callV (as := []) dX12_readDeeds_198 cb_X12_next lk_X12_188 im_X12_next se_X12_next rfl (Nat.le_of_ble_eq_true rfl) ⟨by decide, by decide⟩ ⟨Nat.le_refl _, Nat.le_refl _, Nat.le_refl _⟩ i45 rfl (by decide) hb (fun r0 h87 hb => ?_)
          obtain ⟨rfl, hb⟩ := hb
          refine wp_goto (tgt := 287) dX12_readDeeds_201 (by decide) ?_
          exact wp_sub [2, 3, 4] rfl hb
        · have hb := hb.2 c77
          refine wp_aload_n 2 dX12_readDeeds_165 rfl rfl ?_
          refine wp_iconst (v := 1) dX12_readDeeds_166 (by decide) ?_
          refine wp_aload_n 2 dX12_readDeeds_167 rfl rfl ?_
          refine wp_getI dX12_readDeeds_168 fl_X12_158 i45 ?_
          refine wp_callV (as := [.int 1, .int (h47.1 x0 15)]) dX12_readDeeds_171 cb_X12_stop lk_X12_185 im_X12_stop se_X12_stop rfl (Nat.le_of_ble_eq_true rfl) ⟨by decide, by decide⟩ ⟨Nat.le_refl _, Nat.le_refl _, Nat.le_refl _⟩ i45 rfl (by decide) hb (fun r0 h89 hb => ?_)
          obtain ⟨r90, rfl, hb⟩ := hb
          obtain ⟨q91, hb⟩ := hb
          exact wx_throw rfl dX12_readDeeds_174 q91 (by decide) hb
    · have hb := hb.2 c36
      obtain ⟨i92, hb⟩ := hb
      refine wp_aload_n 1 dX12_readDeeds_117 rfl rfl ?_
      refine wp_iconst (v := 5) dX12_readDeeds_118 (by decide) ?_
      refine wp_aload_n 1 dX12_readDeeds_119 rfl rfl ?_
      refine wp_getI dX12_readDeeds_120 fl_X12_158 i92 ?_
      refine wp_callV (as := [.int 5, .int (h.1 x0 15)]) dX12_readDeeds_123 cb_X12_stop lk_X12_185 im_X12_stop se_X12_stop rfl (Nat.le_of_ble_eq_true rfl) ⟨by decide, by decide⟩ ⟨Nat.le_refl _, Nat.le_refl _, Nat.le_refl _⟩ i92 rfl (by decide) hb (fun r0 h94 hb => ?_)
      obtain ⟨r95, rfl, hb⟩ := hb
      obtain ⟨q96, hb⟩ := hb
      exact wx_throw rfl dX12_readDeeds_126 q96 (by decide) hb
  · have hb := hb.2 c32
    obtain ⟨i97, hb⟩ := hb
    refine wp_aload_n 1 dX12_readDeeds_97 rfl rfl ?_
    refine wp_iconst (v := 1) dX12_readDeeds_98 (by decide) ?_
    refine wp_aload_n 1 dX12_readDeeds_99 rfl rfl ?_
    refine wp_getI dX12_readDeeds_100 fl_X12_158 i97 ?_
    refine wp_callV (as := [.int 1, .int (h.1 x0 15)]) dX12_readDeeds_103 cb_X12_stop lk_X12_185 im_X12_stop se_X12_stop rfl (Nat.le_of_ble_eq_true rfl) ⟨by decide, by decide⟩ ⟨Nat.le_refl _, Nat.le_refl _, Nat.le_refl _⟩ i97 rfl (by decide) hb (fun r0 h99 hb => ?_)
    obtain ⟨r100, rfl, hb⟩ := hb
    obtain ⟨q101, hb⟩ := hb
    exact wx_throw rfl dX12_readDeeds_106 q101 (by decide) hb
set_option maxRecDepth 100000 in
set_option maxHeartbeats 4000000 in
theorem s_X12_readDeeds_287 {l : Launch} {g : AG} {h : AH} {x0 : Nat} {x1 : Int32} {x2 : Nat}  {Q : AH → Prop} {X : AH → Prop} (hb : (Is 194 x2 9) ∧ ( (Is 194 (h.2.2 x2 11) 20) ∧ ( (vp_in x1 (ax_s (h.2.2 x2 11)).2) ∧ ( (vp_in x1 (ax_s (h.2.2 x2 11)).2) ∧ ( ∀ h106 : AH, h106 = ax_setI h (h.2.2 x2 11) x1.toNatClampNeg ((h.1 (h.2.2 x2 11) x1.toNatClampNeg) + 1) → ( (Is 194 x0 11) ∧ ( C_X12_is l g h106 x0 44 (fun r111 h110 => ( ((r111 = 0 → (L_X12_readDeeds_14 l g h110 x0 x1 x2 r111  Q X)) ∧ (¬ (r111 = 0) → (C_X12_next l g h110 x0 (fun h114 => ( L_X12_readDeeds_14 l g h114 x0 x1 x2 r111  Q X)))))))))))))) : L_X12_readDeeds_287 l g h x0 x1 x2  Q X := by
  obtain ⟨i102, hb⟩ := hb
  refine wp_aload_n 2 dX12_readDeeds_287 rfl rfl ?_
  obtain ⟨i103, hb⟩ := hb
  refine wp_getR dX12_readDeeds_288 fl_X12_237 i102 (i103.ne (by decide)) ?_
  refine wp_iload_n 1 dX12_readDeeds_291 rfl rfl ?_
  refine wp_dup2_11 dX12_readDeeds_292 rfl rfl ?_
  obtain ⟨b104, hb⟩ := hb
  refine wp_iaload dX12_readDeeds_293 i103 b104 ?_
  refine wp_iconst (v := 1) dX12_readDeeds_294 (by decide) ?_
  refine wp_iadd dX12_readDeeds_295 ?_
  obtain ⟨b105, hb⟩ := hb
  refine wp_iastore dX12_readDeeds_296 i103 b105 ?_
  refine wp_topH (fun h106 e107 => ?_)
  have hb := hb h106 e107
  obtain ⟨i108, hb⟩ := hb
  refine wp_aload_n 0 dX12_readDeeds_297 rfl rfl ?_
  refine wp_bipush (v := 44) dX12_readDeeds_298 (by decide) ?_
  refine wp_callV (as := [.int 44]) dX12_readDeeds_300 cb_X12_is lk_X12_183 im_X12_is se_X12_is rfl (Nat.le_of_ble_eq_true rfl) ⟨by decide, by decide⟩ ⟨Nat.le_refl _, Nat.le_refl _, Nat.le_refl _⟩ i108 rfl (by decide) hb (fun r0 h110 hb => ?_)
  obtain ⟨r111, rfl, hb⟩ := hb
  refine wp_istore_n (lv2 := [(3, .int r111), (0, .ref x0), (1, .int x1), (2, .ref x2)]) dX12_readDeeds_303 rfl (by decide) rfl ?_
  refine wp_iload_n 0 dX12_readDeeds_304 rfl rfl ?_
  refine wp_if_eq (tgt := 312) dX12_readDeeds_305 (by decide) (fun c112 => ?_) (fun c112 => ?_)
  · have hb := hb.1 c112
    refine wp_goto (tgt := 14) dX12_readDeeds_312 (by decide) ?_
    exact wp_sub [1, 2, 3, 0] rfl hb
  · have hb := hb.2 c112
    refine wp_aload_n 1 dX12_readDeeds_308 rfl rfl ?_
    refine wp_callV (as := []) dX12_readDeeds_309 cb_X12_next lk_X12_188 im_X12_next se_X12_next rfl (Nat.le_of_ble_eq_true rfl) ⟨by decide, by decide⟩ ⟨Nat.le_refl _, Nat.le_refl _, Nat.le_refl _⟩ i108 rfl (by decide) hb (fun r0 h114 hb => ?_)
    obtain ⟨rfl, hb⟩ := hb
    refine wp_goto (tgt := 14) dX12_readDeeds_312 (by decide) ?_
    exact wp_sub [1, 2, 3, 0] rfl hb
set_option maxRecDepth 100000 in
set_option maxHeartbeats 4000000 in
theorem s_X12_readDeeds_286 {l : Launch} {g : AG} {h : AH} {x0 : Nat} {x1 : Int32} {x2 : Nat} {s0 : Int32} {s1 : Int32} {s2 : Nat} {Q : AH → Prop} {X : AH → Prop} (hb : (Is 194 s2 20) ∧ ( (vp_in s1 (ax_s s2).2) ∧ ( ∀ h117 : AH, h117 = ax_setI h s2 s1.toNatClampNeg s0 → ( L_X12_readDeeds_287 l g h117 x0 x1 x2  Q X)))) : L_X12_readDeeds_286 l g h x0 x1 x2 s0 s1 s2 Q X := by
  obtain ⟨i115, hb⟩ := hb
  obtain ⟨b116, hb⟩ := hb
  refine wp_iastore dX12_readDeeds_286 i115 b116 ?_
  refine wp_topH (fun h117 e118 => ?_)
  have hb := hb h117 e118
  exact hb
theorem c_X12_readDeeds {l : Launch} {g : AG} {h : AH} {x0 : Nat} {x1 : Int32}  {Q : AH → Prop} {X : AH → Prop} (hb : L_X12_readDeeds_0 l g h x0 x1  Q X) : C_X12_readDeeds l g h x0 x1  Q X := ax_metx rfl rfl (Nat.le_of_ble_eq_true rfl) hb
def C_X12_readWindow (l : Launch) (g : AG) (h : AH) (x0 : Nat) (x1 : Int32)  (Q : AH → Prop) (X : AH → Prop) : Prop := Cx l g mX12_readWindow 7 190 194 194 h [.ref x0, .int x1] (ax_QV Q) X
def L_X12_readWindow_0 (l : Launch) (g : AG) (h : AH) (x0 : Nat) (x1 : Int32)  (Q : AH → Prop) (X : AH → Prop) : Prop := Wp l g mX12_readWindow 7 190 194 194 194 0 [(0, .ref x0), (1, .int x1)] [] h (FX g 194 194 (ax_QV Q) X)
def L_X12_readWindow_19 (l : Launch) (g : AG) (h : AH) (x0 : Nat) (x1 : Int32) (x2 : Nat)  (Q : AH → Prop) (X : AH → Prop) : Prop := Wp l g mX12_readWindow 7 190 194 194 194 19 [(0, .ref x0), (1, .int x1), (2, .ref x2)] [] h (FX g 194 194 (ax_QV Q) X)
def L_X12_readWindow_101 (l : Launch) (g : AG) (h : AH) (x0 : Nat) (x1 : Int32) (x2 : Nat) (x3 : Int32)  (Q : AH → Prop) (X : AH → Prop) : Prop := Wp l g mX12_readWindow 7 190 194 194 194 101 [(0, .ref x0), (1, .int x1), (2, .ref x2), (3, .int x3)] [] h (FX g 194 194 (ax_QV Q) X)
def L_X12_readWindow_226 (l : Launch) (g : AG) (h : AH) (x0 : Nat) (x1 : Int32) (x2 : Nat) (x3 : Int32) (x4 : Int32) (x5 : Int32)  (Q : AH → Prop) (X : AH → Prop) : Prop := Wp l g mX12_readWindow 7 190 194 194 194 226 [(0, .ref x0), (1, .int x1), (2, .ref x2), (3, .int x3), (4, .int x4), (5, .int x5)] [] h (FX g 194 194 (ax_QV Q) X)
set_option maxRecDepth 100000 in
set_option maxHeartbeats 4000000 in
theorem s_X12_readWindow_0 {l : Launch} {g : AG} {h : AH} {x0 : Nat} {x1 : Int32}  {Q : AH → Prop} {X : AH → Prop} (hb : (Is 194 x0 11) ∧ ( (Is 194 (h.2.2 x0 5) 9) ∧ ( ∀ v3 : Nat, v3 = (h.2.2 x0 5) → ( (Is 194 (h.2.2 v3 7) 20) ∧ ( (vp_in x1 (ax_s (h.2.2 v3 7)).2) ∧ ( ∀ h8 : AH, h8 = ax_setI h (h.2.2 v3 7) x1.toNatClampNeg 0 → ( (Is 194 (h8.2.2 v3 9) 20) ∧ ( (vp_in x1 (ax_s (h8.2.2 v3 9)).2) ∧ ( ∀ h12 : AH, h12 = ax_setI h8 (h8.2.2 v3 9) x1.toNatClampNeg 0 → ( L_X12_readWindow_19 l g h12 x0 x1 v3  Q X)))))))))) : L_X12_readWindow_0 l g h x0 x1  Q X := by
  obtain ⟨i1, hb⟩ := hb
  refine wp_aload_n 0 dX12_readWindow_0 rfl rfl ?_
  obtain ⟨i2, hb⟩ := hb
  refine wp_getR dX12_readWindow_1 fl_X12_26 i1 (i2.ne (by decide)) ?_
  refine wp_topr (fun v3 e4 => ?_)
  have hb := hb v3 e4
  have i5 : Is 194 v3 9 := by rw [e4]; exact i2
  refine wp_astore_n (lv2 := [(2, .ref v3), (0, .ref x0), (1, .int x1)]) dX12_readWindow_4 rfl (by decide) rfl ?_
  refine wp_aload_n 0 dX12_readWindow_5 rfl rfl ?_
  obtain ⟨i6, hb⟩ := hb
  refine wp_getR dX12_readWindow_6 fl_X12_252 i5 (i6.ne (by decide)) ?_
  refine wp_iload_n 2 dX12_readWindow_9 rfl rfl ?_
  refine wp_iconst (v := 0) dX12_readWindow_10 (by decide) ?_
  obtain ⟨b7, hb⟩ := hb
  refine wp_iastore dX12_readWindow_11 i6 b7 ?_
  refine wp_topH (fun h8 e9 => ?_)
  have hb := hb h8 e9
  refine wp_aload_n 0 dX12_readWindow_12 rfl rfl ?_
  obtain ⟨i10, hb⟩ := hb
  refine wp_getR dX12_readWindow_13 fl_X12_234 i5 (i10.ne (by decide)) ?_
  refine wp_iload_n 2 dX12_readWindow_16 rfl rfl ?_
  refine wp_iconst (v := 0) dX12_readWindow_17 (by decide) ?_
  obtain ⟨b11, hb⟩ := hb
  refine wp_iastore dX12_readWindow_18 i10 b11 ?_
  refine wp_topH (fun h12 e13 => ?_)
  have hb := hb h12 e13
  exact wp_sub [1, 2, 0] rfl hb
set_option maxRecDepth 100000 in
set_option maxHeartbeats 4000000 in
theorem s_X12_readWindow_19 {l : Launch} {g : AG} {h : AH} {x0 : Nat} {x1 : Int32} {x2 : Nat}  {Q : AH → Prop} {X : AH → Prop} (hb : (Is 194 x0 11) ∧ ( C_X12_isWord l g h x0 1011 (fun r17 h16 => ( ((r17 = 0 → ((Is 194 x2 9) ∧ ( ∀ v20 : Int32, v20 = (h16.1 x2 1) → ( L_X12_readWindow_101 l g h16 x0 x1 x2 v20  Q X)))) ∧ (¬ (r17 = 0) → ((Is 194 x2 9) ∧ ( (Is 194 (h16.2.2 x2 7) 20) ∧ ( (vp_in x1 (ax_s (h16.2.2 x2 7)).2) ∧ ( ((¬ h16.1 (h16.2.2 x2 7) x1.toNatClampNeg = 6 → (C_X12_next l g h16 x0 (fun h27 => ( (Is 194 (h27.2.2 x2 8) 20) ∧ ( (Is 194 (h27.2.2 x2 7) 20) ∧ ( (vp_in x1 (ax_s (h27.2.2 x2 7)).2) ∧ ( ∀ v31 : Int32, v31 = ((6 * x1) + (h27.1 (h27.2.2 x2 7) x1.toNatClampNeg)) → ( C_X12_varHere l g h27 x0 (fun r35 h34 => ( (vp_in v31 (ax_s (h27.2.2 x2 8)).2) ∧ ( ∀ h37 : AH, h37 = ax_setI h34 (h27.2.2 x2 8) v31.toNatClampNeg r35 → ( C_X12_next l g h37 x0 (fun h40 => ( C_X12_need l g h40 x0 59 (fun h42 => ( (Is 194 (h42.2.2 x2 7) 20) ∧ ( (vp_in x1 (ax_s (h42.2.2 x2 7)).2) ∧ ( (vp_in x1 (ax_s (h42.2.2 x2 7)).2) ∧ ( ∀ h46 : AH, h46 = ax_setI h42 (h42.2.2 x2 7) x1.toNatClampNeg ((h42.1 (h42.2.2 x2 7) x1.toNatClampNeg) + 1) → ( L_X12_readWindow_19 l g h46 x0 x1 x2  Q X)))))) X)))))) X)))))))) ∧ (h16.1 (h16.2.2 x2 7) x1.toNatClampNeg = 6 → (C_X12_stop l g h16 x0 5 (h16.1 x0 15) (fun r50 h49 => ( (r50 = 128) ∧ ( X h49)))))))))))))))) : L_X12_readWindow_19 l g h x0 x1 x2  Q X := by
  obtain ⟨i14, hb⟩ := hb
  refine wp_aload_n 0 dX12_readWindow_19 rfl rfl ?_
  refine wp_ldcS (q := ("WindowHouseModel", 255, "show", 11)) dX12_readWindow_20 (by decide +kernel) rfl rfl (by decide) ?_
  refine wp_callV (as := [.ref 1011]) dX12_readWindow_22 cb_X12_isWord lk_X12_191 im_X12_isWord se_X12_isWord rfl (Nat.le_of_ble_eq_true rfl) ⟨by decide, by decide⟩ ⟨Nat.le_refl _, Nat.le_refl _, Nat.le_refl _⟩ i14 rfl (by decide) hb (fun r0 h16 hb => ?_)
  obtain ⟨r17, rfl, hb⟩ := hb
  refine wp_if_eq (tgt := 96) dX12_readWindow_25 (by decide) (fun c18 => ?_) (fun c18 => ?_)
  · have hb := hb.1 c18
    obtain ⟨i19, hb⟩ := hb
    refine wp_aload_n 2 dX12_readWindow_96 rfl rfl ?_
    refine wp_getI dX12_readWindow_97 fl_X12_208 i19 ?_
    refine wp_topi (fun v20 e21 => ?_)
    have hb := hb v20 e21
    refine wp_istore_n (lv2 := [(3, .int v20), (0, .ref x0), (1, .int x1), (2, .ref x2)]) dX12_readWindow_100 rfl (by decide) rfl ?_
    exact wp_sub [1, 2, 3, 0] rfl hb
  · have hb := hb.2 c18
    obtain ⟨i22, hb⟩ := hb
    refine wp_aload_n 2 dX12_readWindow_28 rfl rfl ?_
    obtain ⟨i23, hb⟩ := hb
    refine wp_getR dX12_readWindow_29 fl_X12_252 i22 (i23.ne (by decide)) ?_
    refine wp_iload_n 1 dX12_readWindow_32 rfl rfl ?_
    obtain ⟨b24, hb⟩ := hb
    refine wp_iaload dX12_readWindow_33 i23 b24 ?_
    refine wp_bipush (v := 6) dX12_readWindow_34 (by decide) ?_
    refine wp_icmp_ne (tgt := 49) dX12_readWindow_36 (by decide) (fun c25 => ?_) (fun c25 => ?_)
    · have hb := hb.1 c25
      refine wp_aload_n 0 dX12_readWindow_49 rfl rfl ?_
      refine wp_callV (as := []) dX12_readWindow_50 cb_X12_next lk_X12_188 im_X12_next se_X12_next rfl (Nat.le_of_ble_eq_true rfl) ⟨by decide, by decide⟩ ⟨Nat.le_refl _, Nat.le_refl _, Nat.le_refl _⟩ i14 rfl (by decide) hb (fun r0 h27 hb => ?_)
      obtain ⟨rfl, hb⟩ := hb
      refine wp_aload_n 2 dX12_readWindow_53 rfl rfl ?_
      obtain ⟨i28, hb⟩ := hb
      refine wp_getR dX12_readWindow_54 fl_X12_257 i22 (i28.ne (by decide)) ?_
      refine wp_bipush (v := 6) dX12_readWindow_57 (by decide) ?_
      refine wp_iload_n 1 dX12_readWindow_59 rfl rfl ?_
      refine wp_imul dX12_readWindow_60 ?_
      refine wp_aload_n 2 dX12_readWindow_61 rfl rfl ?_
      obtain ⟨i29, hb⟩ := hb
      refine wp_getR dX12_readWindow_62 fl_X12_252 i22 (i29.ne (by decide)) ?_
      refine wp_iload_n 1 dX12_readWindow_65 rfl rfl ?_
      obtain ⟨b30, hb⟩ := hb
      refine wp_iaload dX12_readWindow_66 i29 b30 ?_
      refine wp_iadd dX12_readWindow_67 ?_
      refine wp_topi (fun v31 e32 => ?_)
      have hb := hb v31 e32
      refine wp_aload_n 0 dX12_readWindow_68 rfl rfl ?_
      refine wx_callV (as := []) dX12_readWindow_69 cb_X12_varHere lk_X12_259 im_X12_varHere se_X12_varHere rfl (Nat.le_of_ble_eq_true rfl) ⟨by decide, by decide⟩ (Nat.le_refl _) i14 rfl (by decide) (by decide) rfl hb (fun r0 h34 hb => ?_) (fun _ hx => hx)
      obtain ⟨r35, rfl, hb⟩ := hb
      obtain ⟨b36, hb⟩ := hb
      refine wp_iastore dX12_readWindow_72 i28 b36 ?_
      refine wp_topH (fun h37 e38 => ?_)
      have hb := hb h37 e38
      refine wp_aload_n 0 dX12_readWindow_73 rfl rfl ?_
      refine wp_callV (as := []) dX12_readWindow_74 cb_X12_next lk_X12_188 im_X12_next se_X12_next rfl (Nat.le_of_ble_eq_true rfl) ⟨by decide, by decide⟩ ⟨Nat.le_refl _, Nat.le_refl _, Nat.le_refl _⟩ i14 rfl (by decide) hb (fun r0 h40 hb => ?_)
      obtain ⟨rfl, hb⟩ := hb
      refine wp_aload_n 0 dX12_readWindow_77 rfl rfl ?_
      refine wp_bipush (v := 59) dX12_readWindow_78 (by decide) ?_
      refine wx_callV (as := [.int 59]) dX12_readWindow_80 cb_X12_need lk_X12_223 im_X12_need se_X12_need rfl (Nat.le_of_ble_eq_true rfl) ⟨by decide, by decide⟩ (Nat.le_refl _) i14 rfl (by decide) (by decide) rfl hb (fun r0 h42 hb => ?_) (fun _ hx => hx)
      obtain ⟨rfl, hb⟩ := hb
      refine wp_aload_n 2 dX12_readWindow_83 rfl rfl ?_
      obtain ⟨i43, hb⟩ := hb
      refine wp_getR dX12_readWindow_84 fl_X12_252 i22 (i43.ne (by decide)) ?_
      refine wp_iload_n 1 dX12_readWindow_87 rfl rfl ?_
      refine wp_dup2_11 dX12_readWindow_88 rfl rfl ?_
      obtain ⟨b44, hb⟩ := hb
      refine wp_iaload dX12_readWindow_89 i43 b44 ?_
      refine wp_iconst (v := 1) dX12_readWindow_90 (by decide) ?_
      refine wp_iadd dX12_readWindow_91 ?_
      obtain ⟨b45, hb⟩ := hb
      refine wp_iastore dX12_readWindow_92 i43 b45 ?_
      refine wp_topH (fun h46 e47 => ?_)
      have hb := hb h46 e47
      refine wp_goto (tgt := 19) dX12_readWindow_93 (by decide) ?_
      exact hb
    · have hb := hb.2 c25
      refine wp_aload_n 0 dX12_readWindow_39 rfl rfl ?_
      refine wp_iconst (v := 5) dX12_readWindow_40 (by decide) ?_
      refine wp_aload_n 0 dX12_readWindow_41 rfl rfl ?_
      refine wp_getI dX12_readWindow_42 fl_X12_158 i14 ?_
      refine wp_callV (as := [.int 5, .int (h16.1 x0 15)]) dX12_readWindow_45 cb_X12_stop lk_X12_185 im_X12_stop se_X12_stop rfl (Nat.le_of_ble_eq_true rfl) ⟨by decide, by decide⟩ ⟨Nat.le_refl _, Nat.le_refl _, Nat.le_refl _⟩ i14 rfl (by decide) hb (fun r0 h49 hb => ?_)
      obtain ⟨r50, rfl, hb⟩ := hb
      obtain ⟨q51, hb⟩ := hb
      exact wx_throw rfl dX12_readWindow_48 q51 (by decide) hb
set_option maxRecDepth 100000 in
set_option maxHeartbeats 4000000 in
theorem s_X12_readWindow_101 {l : Launch} {g : AG} {h : AH} {x0 : Nat} {x1 : Int32} {x2 : Nat} {x3 : Int32}  {Q : AH → Prop} {X : AH → Prop} (hb : (Is 194 x0 11) ∧ ( C_X12_isWord l g h x0 1003 (fun r55 h54 => ( ((r55 = 0 → (C_X12_isWord l g h54 x0 1001 (fun r59 h58 => ( ((¬ r59 = 0 → (C_X12_next l g h58 x0 (fun h62 => ( (Is 194 x2 9) ∧ ( (Is 194 (h62.2.2 x2 9) 20) ∧ ( C_X12_needNumber l g h62 x0 1 9 (fun r67 h66 => ( (vp_in x1 (ax_s (h62.2.2 x2 9)).2) ∧ ( ∀ h69 : AH, h69 = ax_setI h66 (h62.2.2 x2 9) x1.toNatClampNeg r67 → ( C_X12_needWord l g h69 x0 1005 (fun h72 => ( C_X12_readDeeds l g h72 x0 (24 + x1) (fun h74 => ( C_X12_need l g h74 x0 59 (fun h76 => ( Q h76)) X)) X)) X)))) X)))))) ∧ (r59 = 0 → (Q h58))))))) ∧ (¬ (r55 = 0) → ((Is 194 x2 9) ∧ ( ((¬ h54.1 x2 1 = 24 → (∀ v79 : Int32, v79 = (h54.1 x2 1) → ( C_X12_next l g h54 x0 (fun h82 => ( ((h82.1 x0 14 = 2 → ((Is 194 (h82.2.2 x2 4) 21) ∧ ( C_X12_find l g h82 (h82.2.2 x2 4) x3 v79 (h82.2.1 x0 18) (fun r87 h86 => ( ((r87 = (-1) → ((Is 194 (h86.2.2 x2 4) 21) ∧ ( (vp_in v79 (ax_s (h86.2.2 x2 4)).2) ∧ ( ∀ h91 : AH, h91 = ax_setL h86 (h86.2.2 x2 4) v79.toNatClampNeg (h86.2.1 x0 18) → ( (Is 194 (h91.2.2 x2 17) 20) ∧ ( (vp_in v79 (ax_s (h91.2.2 x2 17)).2) ∧ ( ∀ h95 : AH, h95 = ax_setI h91 (h91.2.2 x2 17) v79.toNatClampNeg x1 → ( (Is 194 (h95.2.2 x2 18) 20) ∧ ( (vp_in v79 (ax_s (h95.2.2 x2 18)).2) ∧ ( ∀ h99 : AH, h99 = ax_setI h95 (h95.2.2 x2 18) v79.toNatClampNeg 0 → ( C_X12_next l g h99 x0 (fun h102 => ( C_X12_isWord l g h102 x0 1007 (fun r105 h104 => ( L_X12_readWindow_226 l g h104 x0 x1 x2 x3 v79 r105  Q X))))))))))))))) ∧ (¬ (r87 = (-1)) → (C_X12_stop l g h86 x0 3 (h86.1 x0 15) (fun r108 h107 => ( (r108 = 128) ∧ ( X h107))))))))))) ∧ (¬ (h82.1 x0 14 = 2) → (C_X12_stop l g h82 x0 1 (h82.1 x0 15) (fun r112 h111 => ( (r112 = 128) ∧ ( X h111))))))))))) ∧ (h54.1 x2 1 = 24 → (C_X12_stop l g h54 x0 5 (h54.1 x0 15) (fun r116 h115 => ( (r116 = 128) ∧ ( X h115)))))))))))))) : L_X12_readWindow_101 l g h x0 x1 x2 x3  Q X := by
  obtain ⟨i52, hb⟩ := hb
  refine wp_aload_n 0 dX12_readWindow_101 rfl rfl ?_
  refine wp_ldcSw (q := ("WindowHouseModel", 262, "button", 3)) dX12_readWindow_102 (by decide +kernel) rfl rfl (by decide) ?_
  refine wp_callV (as := [.ref 1003]) dX12_readWindow_105 cb_X12_isWord lk_X12_191 im_X12_isWord se_X12_isWord rfl (Nat.le_of_ble_eq_true rfl) ⟨by decide, by decide⟩ ⟨Nat.le_refl _, Nat.le_refl _, Nat.le_refl _⟩ i52 rfl (by decide) hb (fun r0 h54 hb => ?_)
  obtain ⟨r55, rfl, hb⟩ := hb
  refine wp_if_eq (tgt := 285) dX12_readWindow_108 (by decide) (fun c56 => ?_) (fun c56 => ?_)
  · have hb := hb.1 c56
    refine wp_aload_n 0 dX12_readWindow_285 rfl rfl ?_
    refine wp_ldcSw (q := ("WindowHouseModel", 289, "after", 1)) dX12_readWindow_286 (by decide +kernel) rfl rfl (by decide) ?_
    refine wp_callV (as := [.ref 1001]) dX12_readWindow_289 cb_X12_isWord lk_X12_191 im_X12_isWord se_X12_isWord rfl (Nat.le_of_ble_eq_true rfl) ⟨by decide, by decide⟩ ⟨Nat.le_refl _, Nat.le_refl _, Nat.le_refl _⟩ i52 rfl (by decide) hb (fun r0 h58 hb => ?_)
    obtain ⟨r59, rfl, hb⟩ := hb
    refine wp_if_ne (tgt := 296) dX12_readWindow_292 (by decide) (fun c60 => ?_) (fun c60 => ?_)
    · have hb := hb.1 c60
      refine wp_aload_n 0 dX12_readWindow_296 rfl rfl ?_
      refine wp_callV (as := []) dX12_readWindow_297 cb_X12_next lk_X12_188 im_X12_next se_X12_next rfl (Nat.le_of_ble_eq_true rfl) ⟨by decide, by decide⟩ ⟨Nat.le_refl _, Nat.le_refl _, Nat.le_refl _⟩ i52 rfl (by decide) hb (fun r0 h62 hb => ?_)
      obtain ⟨rfl, hb⟩ := hb
      obtain ⟨i63, hb⟩ := hb
      refine wp_aload_n 2 dX12_readWindow_300 rfl rfl ?_
      obtain ⟨i64, hb⟩ := hb
      refine wp_getR dX12_readWindow_301 fl_X12_234 i63 (i64.ne (by decide)) ?_
      refine wp_iload_n 1 dX12_readWindow_304 rfl rfl ?_
      refine wp_aload_n 0 dX12_readWindow_305 rfl rfl ?_
      refine wp_iconst (v := 1) dX12_readWindow_306 (by decide) ?_
      refine wp_bipush (v := 9) dX12_readWindow_307 (by decide) ?_
      refine wx_callV (as := [.int 1, .int 9]) dX12_readWindow_309 cb_X12_needNumber lk_X12_219 im_X12_needNumber se_X12_needNumber rfl (Nat.le_of_ble_eq_true rfl) ⟨by decide, by decide⟩ (Nat.le_refl _) i52 rfl (by decide) (by decide) rfl hb (fun r0 h66 hb => ?_) (fun _ hx => hx)
      obtain ⟨r67, rfl, hb⟩ := hb
      obtain ⟨b68, hb⟩ := hb
      refine wp_iastore dX12_readWindow_312 i64 b68 ?_
      refine wp_topH (fun h69 e70 => ?_)
      have hb := hb h69 e70
      refine wp_aload_n 0 dX12_readWindow_313 rfl rfl ?_
      refine wp_ldcSw (q := ("WindowHouseModel", 280, "do", 5)) dX12_readWindow_314 (by decide +kernel) rfl rfl (by decide) ?_
      refine wx_callV (as := [.ref 1005]) dX12_readWindow_317 cb_X12_needWord lk_X12_282 im_X12_needWord se_X12_needWord rfl (Nat.le_of_ble_eq_true rfl) ⟨by decide, by decide⟩ (Nat.le_refl _) i52 rfl (by decide) (by decide) rfl hb (fun r0 h72 hb => ?_) (fun _ hx => hx)
      obtain ⟨rfl, hb⟩ := hb
      refine wp_aload_n 0 dX12_readWindow_320 rfl rfl ?_
      refine wp_bipush (v := 24) dX12_readWindow_321 (by decide) ?_
      refine wp_iload_n 1 dX12_readWindow_323 rfl rfl ?_
      refine wp_iadd dX12_readWindow_324 ?_
      refine wx_callV (as := [.int (24 + x1)]) dX12_readWindow_325 cb_X12_readDeeds lk_X12_286 im_X12_readDeeds se_X12_readDeeds rfl (Nat.le_of_ble_eq_true rfl) ⟨by decide, by decide⟩ (Nat.le_refl _) i52 rfl (by decide) (by decide) rfl hb (fun r0 h74 hb => ?_) (fun _ hx => hx)
      obtain ⟨rfl, hb⟩ := hb
      refine wp_aload_n 0 dX12_readWindow_328 rfl rfl ?_
      refine wp_bipush (v := 59) dX12_readWindow_329 (by decide) ?_
      refine wx_callV (as := [.int 59]) dX12_readWindow_331 cb_X12_need lk_X12_223 im_X12_need se_X12_need rfl (Nat.le_of_ble_eq_true rfl) ⟨by decide, by decide⟩ (Nat.le_refl _) i52 rfl (by decide) (by decide) rfl hb (fun r0 h76 hb => ?_) (fun _ hx => hx)
      obtain ⟨rfl, hb⟩ := hb
      exact wx_of (wp_vret rfl dX12_readWindow_334 ⟨rfl, hb⟩)
    · have hb := hb.2 c60
      exact wx_of (wp_vret rfl dX12_readWindow_295 ⟨rfl, hb⟩)
  · have hb := hb.2 c56
    obtain ⟨i77, hb⟩ := hb
    refine wp_aload_n 2 dX12_readWindow_111 rfl rfl ?_
    refine wp_getI dX12_readWindow_112 fl_X12_208 i77 ?_
    refine wp_bipush (v := 24) dX12_readWindow_115 (by decide) ?_
    refine wp_icmp_ne (tgt := 130) dX12_readWindow_117 (by decide) (fun c78 => ?_) (fun c78 => ?_)
    · have hb := hb.1 c78
      refine wp_aload_n 2 dX12_readWindow_130 rfl rfl ?_
      refine wp_getI dX12_readWindow_131 fl_X12_208 i77 ?_
      refine wp_topi (fun v79 e80 => ?_)
      have hb := hb v79 e80
      refine wp_istore (lv2 := [(4, .int v79), (0, .ref x0), (1, .int x1), (2, .ref x2), (3, .int x3)]) dX12_readWindow_134 (by decide) rfl ?_
      refine wp_aload_n 1 dX12_readWindow_136 rfl rfl ?_
      refine wp_callV (as := []) dX12_readWindow_137 cb_X12_next lk_X12_188 im_X12_next se_X12_next rfl (Nat.le_of_ble_eq_true rfl) ⟨by decide, by decide⟩ ⟨Nat.le_refl _, Nat.le_refl _, Nat.le_refl _⟩ i52 rfl (by decide) hb (fun r0 h82 hb => ?_)
      obtain ⟨rfl, hb⟩ := hb
      refine wp_aload_n 1 dX12_readWindow_140 rfl rfl ?_
      refine wp_getI dX12_readWindow_141 fl_X12_159 i52 ?_
      refine wp_iconst (v := 2) dX12_readWindow_144 (by decide) ?_
      refine wp_icmp_eq (tgt := 158) dX12_readWindow_145 (by decide) (fun c83 => ?_) (fun c83 => ?_)
      · have hb := hb.1 c83
        refine wp_aload_n 3 dX12_readWindow_158 rfl rfl ?_
        obtain ⟨i84, hb⟩ := hb
        refine wp_getR dX12_readWindow_159 fl_X12_264 i77 (i84.ne (by decide)) ?_
        refine wp_iload_n 4 dX12_readWindow_162 rfl rfl ?_
        refine wp_iload 0 dX12_readWindow_163 rfl ?_
        refine wp_aload_n 1 dX12_readWindow_165 rfl rfl ?_
        refine wp_getL dX12_readWindow_166 fl_X12_169 i52 ?_
        refine wp_callS (as := [.ref (h82.2.2 x2 4), .int x3, .int v79, .long (h82.2.1 x0 18)]) dX12_readWindow_169 cb_X12_find lk_X12_201 st_X12_find rfl (Nat.le_of_ble_eq_true rfl) ⟨by decide, by decide⟩ ⟨Nat.le_refl _, Nat.le_refl _, Nat.le_refl _⟩ hb (fun r0 h86 hb => ?_)
        obtain ⟨r87, rfl, hb⟩ := hb
        refine wp_iconst (v := (-1)) dX12_readWindow_172 (by decide) ?_
        refine wp_icmp_eq (tgt := 186) dX12_readWindow_173 (by decide) (fun c88 => ?_) (fun c88 => ?_)
        · have hb := hb.1 c88
          refine wp_aload_n 3 dX12_readWindow_186 rfl rfl ?_
          obtain ⟨i89, hb⟩ := hb
          refine wp_getR dX12_readWindow_187 fl_X12_264 i77 (i89.ne (by decide)) ?_
          refine wp_iload 0 dX12_readWindow_190 rfl ?_
          refine wp_aload_n 1 dX12_readWindow_192 rfl rfl ?_
          refine wp_getL dX12_readWindow_193 fl_X12_169 i52 ?_
          obtain ⟨b90, hb⟩ := hb
          refine wp_lastore dX12_readWindow_196 i89 b90 ?_
          refine wp_topH (fun h91 e92 => ?_)
          have hb := hb h91 e92
          refine wp_aload_n 3 dX12_readWindow_197 rfl rfl ?_
          obtain ⟨i93, hb⟩ := hb
          refine wp_getR dX12_readWindow_198 fl_X12_267 i77 (i93.ne (by decide)) ?_
          refine wp_iload 0 dX12_readWindow_201 rfl ?_
          refine wp_iload_n 2 dX12_readWindow_203 rfl rfl ?_
          obtain ⟨b94, hb⟩ := hb
          refine wp_iastore dX12_readWindow_204 i93 b94 ?_
          refine wp_topH (fun h95 e96 => ?_)
          have hb := hb h95 e96
          refine wp_aload_n 3 dX12_readWindow_205 rfl rfl ?_
          obtain ⟨i97, hb⟩ := hb
          refine wp_getR dX12_readWindow_206 fl_X12_270 i77 (i97.ne (by decide)) ?_
          refine wp_iload 0 dX12_readWindow_209 rfl ?_
          refine wp_iconst (v := 0) dX12_readWindow_211 (by decide) ?_
          obtain ⟨b98, hb⟩ := hb
          refine wp_iastore dX12_readWindow_212 i97 b98 ?_
          refine wp_topH (fun h99 e100 => ?_)
          have hb := hb h99 e100
          refine wp_aload_n 1 dX12_readWindow_213 rfl rfl ?_
          refine wp_callV (as := []) dX12_readWindow_214 cb_X12_next lk_X12_188 im_X12_next se_X12_next rfl (Nat.le_of_ble_eq_true rfl) ⟨by decide, by decide⟩ ⟨Nat.le_refl _, Nat.le_refl _, Nat.le_refl _⟩ i52 rfl (by decide) hb (fun r0 h102 hb => ?_)
          obtain ⟨rfl, hb⟩ := hb
          refine wp_aload_n 1 dX12_readWindow_217 rfl rfl ?_
          refine wp_ldcSw (q := ("WindowHouseModel", 273, "if", 7)) dX12_readWindow_218 (by decide +kernel) rfl rfl (by decide) ?_
          refine wp_callV (as := [.ref 1007]) dX12_readWindow_221 cb_X12_isWord lk_X12_191 im_X12_isWord se_X12_isWord rfl (Nat.le_of_ble_eq_true rfl) ⟨by decide, by decide⟩ ⟨Nat.le_refl _, Nat.le_refl _, Nat.le_refl _⟩ i52 rfl (by decide) hb (fun r0 h104 hb => ?_)
          obtain ⟨r105, rfl, hb⟩ := hb
          refine wp_istore (lv2 := [(5, .int r105), (4, .int v79), (0, .ref x0), (1, .int x1), (2, .ref x2), (3, .int x3)]) dX12_readWindow_224 (by decide) rfl ?_
          exact wp_sub [2, 3, 4, 5, 1, 0] rfl hb
        · have hb := hb.2 c88
          refine wp_aload_n 1 dX12_readWindow_176 rfl rfl ?_
          refine wp_iconst (v := 3) dX12_readWindow_177 (by decide) ?_
          refine wp_aload_n 1 dX12_readWindow_178 rfl rfl ?_
          refine wp_getI dX12_readWindow_179 fl_X12_158 i52 ?_
          refine wp_callV (as := [.int 3, .int (h86.1 x0 15)]) dX12_readWindow_182 cb_X12_stop lk_X12_185 im_X12_stop se_X12_stop rfl (Nat.le_of_ble_eq_true rfl) ⟨by decide, by decide⟩ ⟨Nat.le_refl _, Nat.le_refl _, Nat.le_refl _⟩ i52 rfl (by decide) hb (fun r0 h107 hb => ?_)
          obtain ⟨r108, rfl, hb⟩ := hb
          obtain ⟨q109, hb⟩ := hb
          exact wx_throw rfl dX12_readWindow_185 q109 (by decide) hb
      · have hb := hb.2 c83
        refine wp_aload_n 1 dX12_readWindow_148 rfl rfl ?_
        refine wp_iconst (v := 1) dX12_readWindow_149 (by decide) ?_
        refine wp_aload_n 1 dX12_readWindow_150 rfl rfl ?_
        refine wp_getI dX12_readWindow_151 fl_X12_158 i52 ?_
        refine wp_callV (as := [.int 1, .int (h82.1 x0 15)]) dX12_readWindow_154 cb_X12_stop lk_X12_185 im_X12_stop se_X12_stop rfl (Nat.le_of_ble_eq_true rfl) ⟨by decide, by decide⟩ ⟨Nat.le_refl _, Nat.le_refl _, Nat.le_refl _⟩ i52 rfl (by decide) hb (fun r0 h111 hb => ?_)
        obtain ⟨r112, rfl, hb⟩ := hb
        obtain ⟨q113, hb⟩ := hb
        exact wx_throw rfl dX12_readWindow_157 q113 (by decide) hb
    · have hb := hb.2 c78
      refine wp_aload_n 0 dX12_readWindow_120 rfl rfl ?_
      refine wp_iconst (v := 5) dX12_readWindow_121 (by decide) ?_
      refine wp_aload_n 0 dX12_readWindow_122 rfl rfl ?_
      refine wp_getI dX12_readWindow_123 fl_X12_158 i52 ?_
      refine wp_callV (as := [.int 5, .int (h54.1 x0 15)]) dX12_readWindow_126 cb_X12_stop lk_X12_185 im_X12_stop se_X12_stop rfl (Nat.le_of_ble_eq_true rfl) ⟨by decide, by decide⟩ ⟨Nat.le_refl _, Nat.le_refl _, Nat.le_refl _⟩ i52 rfl (by decide) hb (fun r0 h115 hb => ?_)
      obtain ⟨r116, rfl, hb⟩ := hb
      obtain ⟨q117, hb⟩ := hb
      exact wx_throw rfl dX12_readWindow_129 q117 (by decide) hb
set_option maxRecDepth 100000 in
set_option maxHeartbeats 4000000 in
theorem s_X12_readWindow_226 {l : Launch} {g : AG} {h : AH} {x0 : Nat} {x1 : Int32} {x2 : Nat} {x3 : Int32} {x4 : Int32} {x5 : Int32}  {Q : AH → Prop} {X : AH → Prop} (hb : ((x5 = 0 → ((Is 194 x0 11) ∧ ( C_X12_needWord l g h x0 1005 (fun h121 => ( C_X12_readDeeds l g h121 x0 x4 (fun h123 => ( C_X12_need l g h123 x0 59 (fun h125 => ( (Is 194 x2 9) ∧ ( ∀ h127 : AH, h127 = ax_setI h125 x2 1 ((h125.1 x2 1) + 1) → ( L_X12_readWindow_101 l g h127 x0 x1 x2 x3  Q X)))) X)) X)) X))) ∧ (¬ (x5 = 0) → ((Is 194 x0 11) ∧ ( C_X12_next l g h x0 (fun h131 => ( C_X12_readCond l g h131 x0 x4 (fun h133 => ( C_X12_isWord l g h133 x0 1002 (fun r136 h135 => ( L_X12_readWindow_226 l g h135 x0 x1 x2 x3 x4 r136  Q X)))) X))))))) : L_X12_readWindow_226 l g h x0 x1 x2 x3 x4 x5  Q X := by
  refine wp_iload 5 dX12_readWindow_226 rfl ?_
  refine wp_if_eq (tgt := 253) dX12_readWindow_228 (by decide) (fun c118 => ?_) (fun c118 => ?_)
  · have hb := hb.1 c118
    obtain ⟨i119, hb⟩ := hb
    refine wp_aload_n 0 dX12_readWindow_253 rfl rfl ?_
    refine wp_ldcSw (q := ("WindowHouseModel", 280, "do", 5)) dX12_readWindow_254 (by decide +kernel) rfl rfl (by decide) ?_
    refine wx_callV (as := [.ref 1005]) dX12_readWindow_257 cb_X12_needWord lk_X12_282 im_X12_needWord se_X12_needWord rfl (Nat.le_of_ble_eq_true rfl) ⟨by decide, by decide⟩ (Nat.le_refl _) i119 rfl (by decide) (by decide) rfl hb (fun r0 h121 hb => ?_) (fun _ hx => hx)
    obtain ⟨rfl, hb⟩ := hb
    refine wp_aload_n 0 dX12_readWindow_260 rfl rfl ?_
    refine wp_iload 4 dX12_readWindow_261 rfl ?_
    refine wx_callV (as := [.int x4]) dX12_readWindow_263 cb_X12_readDeeds lk_X12_286 im_X12_readDeeds se_X12_readDeeds rfl (Nat.le_of_ble_eq_true rfl) ⟨by decide, by decide⟩ (Nat.le_refl _) i119 rfl (by decide) (by decide) rfl hb (fun r0 h123 hb => ?_) (fun _ hx => hx)
    obtain ⟨rfl, hb⟩ := hb
    refine wp_aload_n 0 dX12_readWindow_266 rfl rfl ?_
    refine wp_bipush (v := 59) dX12_readWindow_267 (by decide) ?_
    refine wx_callV (as := [.int 59]) dX12_readWindow_269 cb_X12_need lk_X12_223 im_X12_need se_X12_need rfl (Nat.le_of_ble_eq_true rfl) ⟨by decide, by decide⟩ (Nat.le_refl _) i119 rfl (by decide) (by decide) rfl hb (fun r0 h125 hb => ?_) (fun _ hx => hx)
    obtain ⟨rfl, hb⟩ := hb
    obtain ⟨i126, hb⟩ := hb
    refine wp_aload_n 2 dX12_readWindow_272 rfl rfl ?_
    refine wp_dup dX12_readWindow_273 rfl ?_
    refine wp_getI dX12_readWindow_274 fl_X12_208 i126 ?_
    refine wp_iconst (v := 1) dX12_readWindow_277 (by decide) ?_
    refine wp_iadd dX12_readWindow_278 ?_
    refine wp_putI dX12_readWindow_279 fl_X12_208 (Or.inl rfl) i126 ?_
    refine wp_topH (fun h127 e128 => ?_)
    have hb := hb h127 e128
    refine wp_goto (tgt := 101) dX12_readWindow_282 (by decide) ?_
    exact wp_sub [0, 1, 2, 3] rfl hb
  · have hb := hb.2 c118
    obtain ⟨i129, hb⟩ := hb
    refine wp_aload_n 0 dX12_readWindow_231 rfl rfl ?_
    refine wp_callV (as := []) dX12_readWindow_232 cb_X12_next lk_X12_188 im_X12_next se_X12_next rfl (Nat.le_of_ble_eq_true rfl) ⟨by decide, by decide⟩ ⟨Nat.le_refl _, Nat.le_refl _, Nat.le_refl _⟩ i129 rfl (by decide) hb (fun r0 h131 hb => ?_)
    obtain ⟨rfl, hb⟩ := hb
    refine wp_aload_n 0 dX12_readWindow_235 rfl rfl ?_
    refine wp_iload 4 dX12_readWindow_236 rfl ?_
    refine wx_callV (as := [.int x4]) dX12_readWindow_238 cb_X12_readCond lk_X12_275 im_X12_readCond se_X12_readCond rfl (Nat.le_of_ble_eq_true rfl) ⟨by decide, by decide⟩ (Nat.le_refl _) i129 rfl (by decide) (by decide) rfl hb (fun r0 h133 hb => ?_) (fun _ hx => hx)
    obtain ⟨rfl, hb⟩ := hb
    refine wp_aload_n 0 dX12_readWindow_241 rfl rfl ?_
    refine wp_ldcSw (q := ("WindowHouseModel", 278, "and", 2)) dX12_readWindow_242 (by decide +kernel) rfl rfl (by decide) ?_
    refine wp_callV (as := [.ref 1002]) dX12_readWindow_245 cb_X12_isWord lk_X12_191 im_X12_isWord se_X12_isWord rfl (Nat.le_of_ble_eq_true rfl) ⟨by decide, by decide⟩ ⟨Nat.le_refl _, Nat.le_refl _, Nat.le_refl _⟩ i129 rfl (by decide) hb (fun r0 h135 hb => ?_)
    obtain ⟨r136, rfl, hb⟩ := hb
    refine wp_istore (lv2 := [(5, .int r136), (0, .ref x0), (1, .int x1), (2, .ref x2), (3, .int x3), (4, .int x4)]) dX12_readWindow_248 (by decide) rfl ?_
    refine wp_goto (tgt := 226) dX12_readWindow_250 (by decide) ?_
    exact wp_sub [1, 2, 3, 4, 5, 0] rfl hb
theorem c_X12_readWindow {l : Launch} {g : AG} {h : AH} {x0 : Nat} {x1 : Int32}  {Q : AH → Prop} {X : AH → Prop} (hb : L_X12_readWindow_0 l g h x0 x1  Q X) : C_X12_readWindow l g h x0 x1  Q X := ax_metx rfl rfl (Nat.le_of_ble_eq_true rfl) hb
def C_X12_reads (l : Launch) (g : AG) (h : AH) (x0 : Nat)  (Q : AH → Prop) (X : AH → Prop) : Prop := Cx l g mX12_reads 8 215 194 194 h [.ref x0] (ax_QV Q) X
def L_X12_reads_0 (l : Launch) (g : AG) (h : AH) (x0 : Nat)  (Q : AH → Prop) (X : AH → Prop) : Prop := Wp l g mX12_reads 8 215 194 194 194 0 [(0, .ref x0)] [] h (FX g 194 194 (ax_QV Q) X)
def L_X12_reads_24 (l : Launch) (g : AG) (h : AH) (x0 : Nat) (x1 : Nat)  (Q : AH → Prop) (X : AH → Prop) : Prop := Wp l g mX12_reads 8 215 194 194 194 24 [(0, .ref x0), (1, .ref x1)] [] h (FX g 194 194 (ax_QV Q) X)
def L_X12_reads_42 (l : Launch) (g : AG) (h : AH) (x0 : Nat) (x1 : Nat)  (Q : AH → Prop) (X : AH → Prop) : Prop := Wp l g mX12_reads 8 215 194 194 194 42 [(0, .ref x0), (1, .ref x1)] [] h (FX g 194 194 (ax_QV Q) X)
def L_X12_reads_184 (l : Launch) (g : AG) (h : AH) (x0 : Nat) (x1 : Nat) (x2 : Int32)  (Q : AH → Prop) (X : AH → Prop) : Prop := Wp l g mX12_reads 8 215 194 194 194 184 [(0, .ref x0), (1, .ref x1), (2, .int x2)] [] h (FX g 194 194 (ax_QV Q) X)
def L_X12_reads_347 (l : Launch) (g : AG) (h : AH) (x0 : Nat) (x1 : Nat) (x3 : Int32) (x4 : Int32)  (Q : AH → Prop) (X : AH → Prop) : Prop := Wp l g mX12_reads 8 215 194 194 194 347 [(0, .ref x0), (1, .ref x1), (3, .int x3), (4, .int x4)] [] h (FX g 194 194 (ax_QV Q) X)
def L_X12_reads_407 (l : Launch) (g : AG) (h : AH) (x0 : Nat) (x1 : Nat) (x3 : Int32) (x4 : Int32) (x5 : Int32)  (Q : AH → Prop) (X : AH → Prop) : Prop := Wp l g mX12_reads 8 215 194 194 194 407 [(0, .ref x0), (1, .ref x1), (3, .int x3), (4, .int x4), (5, .int x5)] [] h (FX g 194 194 (ax_QV Q) X)
set_option maxRecDepth 100000 in
set_option maxHeartbeats 4000000 in
theorem s_X12_reads_0 {l : Launch} {g : AG} {h : AH} {x0 : Nat}  {Q : AH → Prop} {X : AH → Prop} (hb : (Is 194 x0 11) ∧ ( (Is 194 (h.2.2 x0 5) 9) ∧ ( ∀ v3 : Nat, v3 = (h.2.2 x0 5) → ( ∀ h6 : AH, h6 = ax_setI h v3 0 0 → ( ∀ h8 : AH, h8 = ax_setI h6 v3 1 0 → ( ∀ h10 : AH, h10 = ax_setI h8 v3 2 0 → ( C_X12_next l g h10 x0 (fun h13 => ( L_X12_reads_24 l g h13 x0 v3  Q X))))))))) : L_X12_reads_0 l g h x0  Q X := by
  obtain ⟨i1, hb⟩ := hb
  refine wp_aload_n 0 dX12_reads_0 rfl rfl ?_
  obtain ⟨i2, hb⟩ := hb
  refine wp_getR dX12_reads_1 fl_X12_26 i1 (i2.ne (by decide)) ?_
  refine wp_topr (fun v3 e4 => ?_)
  have hb := hb v3 e4
  have i5 : Is 194 v3 9 := by rw [e4]; exact i2
  refine wp_astore_n (lv2 := [(1, .ref v3), (0, .ref x0)]) dX12_reads_4 rfl (by decide) rfl ?_
  refine wp_aload_n 0 dX12_reads_5 rfl rfl ?_
  refine wp_iconst (v := 0) dX12_reads_6 (by decide) ?_
  refine wp_putI dX12_reads_7 fl_X12_205 (Or.inl rfl) i5 ?_
  refine wp_topH (fun h6 e7 => ?_)
  have hb := hb h6 e7
  refine wp_aload_n 0 dX12_reads_10 rfl rfl ?_
  refine wp_iconst (v := 0) dX12_reads_11 (by decide) ?_
  refine wp_putI dX12_reads_12 fl_X12_208 (Or.inl rfl) i5 ?_
  refine wp_topH (fun h8 e9 => ?_)
  have hb := hb h8 e9
  refine wp_aload_n 0 dX12_reads_15 rfl rfl ?_
  refine wp_iconst (v := 0) dX12_reads_16 (by decide) ?_
  refine wp_putI dX12_reads_17 fl_X12_198 (Or.inl rfl) i5 ?_
  refine wp_topH (fun h10 e11 => ?_)
  have hb := hb h10 e11
  refine wp_aload_n 1 dX12_reads_20 rfl rfl ?_
  refine wp_callV (as := []) dX12_reads_21 cb_X12_next lk_X12_188 im_X12_next se_X12_next rfl (Nat.le_of_ble_eq_true rfl) ⟨by decide, by decide⟩ ⟨Nat.le_refl _, Nat.le_refl _, Nat.le_refl _⟩ i1 rfl (by decide) hb (fun r0 h13 hb => ?_)
  obtain ⟨rfl, hb⟩ := hb
  exact wp_sub [1, 0] rfl hb
set_option maxRecDepth 100000 in
set_option maxHeartbeats 4000000 in
theorem s_X12_reads_24 {l : Launch} {g : AG} {h : AH} {x0 : Nat} {x1 : Nat}  {Q : AH → Prop} {X : AH → Prop} (hb : (Is 194 x0 11) ∧ ( C_X12_isWord l g h x0 1012 (fun r17 h16 => ( ((¬ r17 = 0 → (L_X12_reads_42 l g h16 x0 x1  Q X)) ∧ (r17 = 0 → (C_X12_isWord l g h16 x0 1008 (fun r21 h20 => ( ((r21 = 0 → (L_X12_reads_184 l g h20 x0 x1 1  Q X)) ∧ (¬ (r21 = 0) → (L_X12_reads_42 l g h20 x0 x1  Q X)))))))))))) : L_X12_reads_24 l g h x0 x1  Q X := by
  obtain ⟨i14, hb⟩ := hb
  refine wp_aload_n 0 dX12_reads_24 rfl rfl ?_
  refine wp_ldcS (q := ("WindowHouseModel", 211, "var", 12)) dX12_reads_25 (by decide +kernel) rfl rfl (by decide) ?_
  refine wp_callV (as := [.ref 1012]) dX12_reads_27 cb_X12_isWord lk_X12_191 im_X12_isWord se_X12_isWord rfl (Nat.le_of_ble_eq_true rfl) ⟨by decide, by decide⟩ ⟨Nat.le_refl _, Nat.le_refl _, Nat.le_refl _⟩ i14 rfl (by decide) hb (fun r0 h16 hb => ?_)
  obtain ⟨r17, rfl, hb⟩ := hb
  refine wp_if_ne (tgt := 42) dX12_reads_30 (by decide) (fun c18 => ?_) (fun c18 => ?_)
  · have hb := hb.1 c18
    exact hb
  · have hb := hb.2 c18
    refine wp_aload_n 0 dX12_reads_33 rfl rfl ?_
    refine wp_ldcS (q := ("WindowHouseModel", 212, "kept", 8)) dX12_reads_34 (by decide +kernel) rfl rfl (by decide) ?_
    refine wp_callV (as := [.ref 1008]) dX12_reads_36 cb_X12_isWord lk_X12_191 im_X12_isWord se_X12_isWord rfl (Nat.le_of_ble_eq_true rfl) ⟨by decide, by decide⟩ ⟨Nat.le_refl _, Nat.le_refl _, Nat.le_refl _⟩ i14 rfl (by decide) hb (fun r0 h20 hb => ?_)
    obtain ⟨r21, rfl, hb⟩ := hb
    refine wp_if_eq (tgt := 182) dX12_reads_39 (by decide) (fun c22 => ?_) (fun c22 => ?_)
    · have hb := hb.1 c22
      refine wp_iconst (v := 1) dX12_reads_182 (by decide) ?_
      refine wp_istore_n (lv2 := [(2, .int 1), (0, .ref x0), (1, .ref x1)]) dX12_reads_183 rfl (by decide) rfl ?_
      exact wp_sub [1, 2, 0] rfl hb
    · have hb := hb.2 c22
      exact hb
set_option maxRecDepth 100000 in
set_option maxHeartbeats 4000000 in
theorem s_X12_reads_42 {l : Launch} {g : AG} {h : AH} {x0 : Nat} {x1 : Nat}  {Q : AH → Prop} {X : AH → Prop} (hb : (Is 194 x0 11) ∧ ( C_X12_isWord l g h x0 1008 (fun r26 h25 => ( (Is 194 x1 9) ∧ ( ((¬ h25.1 x1 2 = 6 → (C_X12_next l g h25 x0 (fun h30 => ( ((h30.1 x0 14 = 2 → ((Is 194 (h30.2.2 x1 5) 21) ∧ ( C_X12_find l g h30 (h30.2.2 x1 5) 0 (h30.1 x1 2) (h30.2.1 x0 18) (fun r35 h34 => ( ((r35 = (-1) → ((Is 194 (h34.2.2 x1 5) 21) ∧ ( (vp_in (h34.1 x1 2) (ax_s (h34.2.2 x1 5)).2) ∧ ( ∀ h39 : AH, h39 = ax_setL h34 (h34.2.2 x1 5) (h34.1 x1 2).toNatClampNeg (h34.2.1 x0 18) → ( (Is 194 (h39.2.2 x1 10) 23) ∧ ( (vp_in (h39.1 x1 2) (ax_s (h39.2.2 x1 10)).2) ∧ ( ∀ h43 : AH, h43 = ax_setI h39 (h39.2.2 x1 10) (h39.1 x1 2).toNatClampNeg (vp_nar .boolean r26) → ( C_X12_next l g h43 x0 (fun h46 => ( (Is 194 (h46.2.2 x1 6) 20) ∧ ( C_X12_needNumber l g h46 x0 1 9 (fun r50 h49 => ( (vp_in (h46.1 x1 2) (ax_s (h46.2.2 x1 6)).2) ∧ ( ∀ h52 : AH, h52 = ax_setI h49 (h46.2.2 x1 6) (h46.1 x1 2).toNatClampNeg r50 → ( C_X12_need l g h52 x0 59 (fun h55 => ( ∀ h56 : AH, h56 = ax_setI h55 x1 2 ((h55.1 x1 2) + 1) → ( L_X12_reads_24 l g h56 x0 x1  Q X))) X)))) X))))))))))) ∧ (¬ (r35 = (-1)) → (C_X12_stop l g h34 x0 3 (h34.1 x0 15) (fun r60 h59 => ( (r60 = 128) ∧ ( X h59))))))))))) ∧ (¬ (h30.1 x0 14 = 2) → (C_X12_stop l g h30 x0 1 (h30.1 x0 15) (fun r64 h63 => ( (r64 = 128) ∧ ( X h63)))))))))) ∧ (h25.1 x1 2 = 6 → (C_X12_stop l g h25 x0 5 (h25.1 x0 15) (fun r68 h67 => ( (r68 = 128) ∧ ( X h67))))))))))) : L_X12_reads_42 l g h x0 x1  Q X := by
  obtain ⟨i23, hb⟩ := hb
  refine wp_aload_n 0 dX12_reads_42 rfl rfl ?_
  refine wp_ldcS (q := ("WindowHouseModel", 212, "kept", 8)) dX12_reads_43 (by decide +kernel) rfl rfl (by decide) ?_
  refine wp_callV (as := [.ref 1008]) dX12_reads_45 cb_X12_isWord lk_X12_191 im_X12_isWord se_X12_isWord rfl (Nat.le_of_ble_eq_true rfl) ⟨by decide, by decide⟩ ⟨Nat.le_refl _, Nat.le_refl _, Nat.le_refl _⟩ i23 rfl (by decide) hb (fun r0 h25 hb => ?_)
  obtain ⟨r26, rfl, hb⟩ := hb
  refine wp_istore_n (lv2 := [(2, .int r26), (0, .ref x0), (1, .ref x1)]) dX12_reads_48 rfl (by decide) rfl ?_
  obtain ⟨i27, hb⟩ := hb
  refine wp_aload_n 2 dX12_reads_49 rfl rfl ?_
  refine wp_getI dX12_reads_50 fl_X12_198 i27 ?_
  refine wp_bipush (v := 6) dX12_reads_53 (by decide) ?_
  refine wp_icmp_ne (tgt := 68) dX12_reads_55 (by decide) (fun c28 => ?_) (fun c28 => ?_)
  · have hb := hb.1 c28
    refine wp_aload_n 1 dX12_reads_68 rfl rfl ?_
    refine wp_callV (as := []) dX12_reads_69 cb_X12_next lk_X12_188 im_X12_next se_X12_next rfl (Nat.le_of_ble_eq_true rfl) ⟨by decide, by decide⟩ ⟨Nat.le_refl _, Nat.le_refl _, Nat.le_refl _⟩ i23 rfl (by decide) hb (fun r0 h30 hb => ?_)
    obtain ⟨rfl, hb⟩ := hb
    refine wp_aload_n 1 dX12_reads_72 rfl rfl ?_
    refine wp_getI dX12_reads_73 fl_X12_159 i23 ?_
    refine wp_iconst (v := 2) dX12_reads_76 (by decide) ?_
    refine wp_icmp_eq (tgt := 90) dX12_reads_77 (by decide) (fun c31 => ?_) (fun c31 => ?_)
    · have hb := hb.1 c31
      refine wp_aload_n 2 dX12_reads_90 rfl rfl ?_
      obtain ⟨i32, hb⟩ := hb
      refine wp_getR dX12_reads_91 fl_X12_195 i27 (i32.ne (by decide)) ?_
      refine wp_iconst (v := 0) dX12_reads_94 (by decide) ?_
      refine wp_aload_n 2 dX12_reads_95 rfl rfl ?_
      refine wp_getI dX12_reads_96 fl_X12_198 i27 ?_
      refine wp_aload_n 1 dX12_reads_99 rfl rfl ?_
      refine wp_getL dX12_reads_100 fl_X12_169 i23 ?_
      refine wp_callS (as := [.ref (h30.2.2 x1 5), .int 0, .int (h30.1 x1 2), .long (h30.2.1 x0 18)]) dX12_reads_103 cb_X12_find lk_X12_201 st_X12_find rfl (Nat.le_of_ble_eq_true rfl) ⟨by decide, by decide⟩ ⟨Nat.le_refl _, Nat.le_refl _, Nat.le_refl _⟩ hb (fun r0 h34 hb => ?_)
      obtain ⟨r35, rfl, hb⟩ := hb
      refine wp_iconst (v := (-1)) dX12_reads_106 (by decide) ?_
      refine wp_icmp_eq (tgt := 120) dX12_reads_107 (by decide) (fun c36 => ?_) (fun c36 => ?_)
      · have hb := hb.1 c36
        refine wp_aload_n 2 dX12_reads_120 rfl rfl ?_
        obtain ⟨i37, hb⟩ := hb
        refine wp_getR dX12_reads_121 fl_X12_195 i27 (i37.ne (by decide)) ?_
        refine wp_aload_n 2 dX12_reads_124 rfl rfl ?_
        refine wp_getI dX12_reads_125 fl_X12_198 i27 ?_
        refine wp_aload_n 1 dX12_reads_128 rfl rfl ?_
        refine wp_getL dX12_reads_129 fl_X12_169 i23 ?_
        obtain ⟨b38, hb⟩ := hb
        refine wp_lastore dX12_reads_132 i37 b38 ?_
        refine wp_topH (fun h39 e40 => ?_)
        have hb := hb h39 e40
        refine wp_aload_n 2 dX12_reads_133 rfl rfl ?_
        obtain ⟨i41, hb⟩ := hb
        refine wp_getR dX12_reads_134 fl_X12_214 i27 (i41.ne (by decide)) ?_
        refine wp_aload_n 2 dX12_reads_137 rfl rfl ?_
        refine wp_getI dX12_reads_138 fl_X12_198 i27 ?_
        refine wp_iload_n 0 dX12_reads_141 rfl rfl ?_
        obtain ⟨b42, hb⟩ := hb
        refine wp_zastore dX12_reads_142 i41 b42 ?_
        refine wp_topH (fun h43 e44 => ?_)
        have hb := hb h43 e44
        refine wp_aload_n 1 dX12_reads_143 rfl rfl ?_
        refine wp_callV (as := []) dX12_reads_144 cb_X12_next lk_X12_188 im_X12_next se_X12_next rfl (Nat.le_of_ble_eq_true rfl) ⟨by decide, by decide⟩ ⟨Nat.le_refl _, Nat.le_refl _, Nat.le_refl _⟩ i23 rfl (by decide) hb (fun r0 h46 hb => ?_)
        obtain ⟨rfl, hb⟩ := hb
        refine wp_aload_n 2 dX12_reads_147 rfl rfl ?_
        obtain ⟨i47, hb⟩ := hb
        refine wp_getR dX12_reads_148 fl_X12_216 i27 (i47.ne (by decide)) ?_
        refine wp_aload_n 2 dX12_reads_151 rfl rfl ?_
        refine wp_getI dX12_reads_152 fl_X12_198 i27 ?_
        refine wp_aload_n 1 dX12_reads_155 rfl rfl ?_
        refine wp_iconst (v := 1) dX12_reads_156 (by decide) ?_
        refine wp_bipush (v := 9) dX12_reads_157 (by decide) ?_
        refine wx_callV (as := [.int 1, .int 9]) dX12_reads_159 cb_X12_needNumber lk_X12_219 im_X12_needNumber se_X12_needNumber rfl (Nat.le_of_ble_eq_true rfl) ⟨by decide, by decide⟩ (Nat.le_refl _) i23 rfl (by decide) (by decide) rfl hb (fun r0 h49 hb => ?_) (fun _ hx => hx)
        obtain ⟨r50, rfl, hb⟩ := hb
        obtain ⟨b51, hb⟩ := hb
        refine wp_iastore dX12_reads_162 i47 b51 ?_
        refine wp_topH (fun h52 e53 => ?_)
        have hb := hb h52 e53
        refine wp_aload_n 1 dX12_reads_163 rfl rfl ?_
        refine wp_bipush (v := 59) dX12_reads_164 (by decide) ?_
        refine wx_callV (as := [.int 59]) dX12_reads_166 cb_X12_need lk_X12_223 im_X12_need se_X12_need rfl (Nat.le_of_ble_eq_true rfl) ⟨by decide, by decide⟩ (Nat.le_refl _) i23 rfl (by decide) (by decide) rfl hb (fun r0 h55 hb => ?_) (fun _ hx => hx)
        obtain ⟨rfl, hb⟩ := hb
        refine wp_aload_n 2 dX12_reads_169 rfl rfl ?_
        refine wp_dup dX12_reads_170 rfl ?_
        refine wp_getI dX12_reads_171 fl_X12_198 i27 ?_
        refine wp_iconst (v := 1) dX12_reads_174 (by decide) ?_
        refine wp_iadd dX12_reads_175 ?_
        refine wp_putI dX12_reads_176 fl_X12_198 (Or.inl rfl) i27 ?_
        refine wp_topH (fun h56 e57 => ?_)
        have hb := hb h56 e57
        refine wp_goto (tgt := 24) dX12_reads_179 (by decide) ?_
        exact wp_sub [1, 2] rfl hb
      · have hb := hb.2 c36
        refine wp_aload_n 1 dX12_reads_110 rfl rfl ?_
        refine wp_iconst (v := 3) dX12_reads_111 (by decide) ?_
        refine wp_aload_n 1 dX12_reads_112 rfl rfl ?_
        refine wp_getI dX12_reads_113 fl_X12_158 i23 ?_
        refine wp_callV (as := [.int 3, .int (h34.1 x0 15)]) dX12_reads_116 cb_X12_stop lk_X12_185 im_X12_stop se_X12_stop rfl (Nat.le_of_ble_eq_true rfl) ⟨by decide, by decide⟩ ⟨Nat.le_refl _, Nat.le_refl _, Nat.le_refl _⟩ i23 rfl (by decide) hb (fun r0 h59 hb => ?_)
        obtain ⟨r60, rfl, hb⟩ := hb
        obtain ⟨q61, hb⟩ := hb
        exact wx_throw rfl dX12_reads_119 q61 (by decide) hb
    · have hb := hb.2 c31
      refine wp_aload_n 1 dX12_reads_80 rfl rfl ?_
      refine wp_iconst (v := 1) dX12_reads_81 (by decide) ?_
      refine wp_aload_n 1 dX12_reads_82 rfl rfl ?_
      refine wp_getI dX12_reads_83 fl_X12_158 i23 ?_
      refine wp_callV (as := [.int 1, .int (h30.1 x0 15)]) dX12_reads_86 cb_X12_stop lk_X12_185 im_X12_stop se_X12_stop rfl (Nat.le_of_ble_eq_true rfl) ⟨by decide, by decide⟩ ⟨Nat.le_refl _, Nat.le_refl _, Nat.le_refl _⟩ i23 rfl (by decide) hb (fun r0 h63 hb => ?_)
      obtain ⟨r64, rfl, hb⟩ := hb
      obtain ⟨q65, hb⟩ := hb
      exact wx_throw rfl dX12_reads_89 q65 (by decide) hb
  · have hb := hb.2 c28
    refine wp_aload_n 1 dX12_reads_58 rfl rfl ?_
    refine wp_iconst (v := 5) dX12_reads_59 (by decide) ?_
    refine wp_aload_n 1 dX12_reads_60 rfl rfl ?_
    refine wp_getI dX12_reads_61 fl_X12_158 i23 ?_
    refine wp_callV (as := [.int 5, .int (h25.1 x0 15)]) dX12_reads_64 cb_X12_stop lk_X12_185 im_X12_stop se_X12_stop rfl (Nat.le_of_ble_eq_true rfl) ⟨by decide, by decide⟩ ⟨Nat.le_refl _, Nat.le_refl _, Nat.le_refl _⟩ i23 rfl (by decide) hb (fun r0 h67 hb => ?_)
    obtain ⟨r68, rfl, hb⟩ := hb
    obtain ⟨q69, hb⟩ := hb
    exact wx_throw rfl dX12_reads_67 q69 (by decide) hb
set_option maxRecDepth 100000 in
set_option maxHeartbeats 4000000 in
theorem s_X12_reads_184 {l : Launch} {g : AG} {h : AH} {x0 : Nat} {x1 : Nat} {x2 : Int32}  {Q : AH → Prop} {X : AH → Prop} (hb : ((x2 = 0 → (L_X12_reads_347 l g h x0 x1 (-1) 0  Q X)) ∧ (¬ (x2 = 0) → ((Is 194 x0 11) ∧ ( C_X12_isWord l g h x0 1013 (fun r74 h73 => ( ((¬ r74 = 0 → ((Is 194 x1 9) ∧ ( ((¬ h73.1 x1 0 = 8 → (C_X12_next l g h73 x0 (fun h79 => ( ((h79.1 x0 14 = 2 → ((Is 194 (h79.2.2 x1 3) 21) ∧ ( C_X12_find l g h79 (h79.2.2 x1 3) 0 (h79.1 x1 0) (h79.2.1 x0 18) (fun r84 h83 => ( ((r84 = (-1) → ((Is 194 (h83.2.2 x1 3) 21) ∧ ( (vp_in (h83.1 x1 0) (ax_s (h83.2.2 x1 3)).2) ∧ ( ∀ h88 : AH, h88 = ax_setL h83 (h83.2.2 x1 3) (h83.1 x1 0).toNatClampNeg (h83.2.1 x0 18) → ( C_X12_next l g h88 x0 (fun h91 => ( C_X12_need l g h91 x0 123 (fun h93 => ( C_X12_readWindow l g h93 x0 (h93.1 x1 0) (fun h95 => ( C_X12_need l g h95 x0 125 (fun h97 => ( ∀ h98 : AH, h98 = ax_setI h97 x1 0 ((h97.1 x1 0) + 1) → ( ((h98.1 x0 14 = 1 → (L_X12_reads_184 l g h98 x0 x1 0  Q X)) ∧ (¬ (h98.1 x0 14 = 1) → (L_X12_reads_184 l g h98 x0 x1 1  Q X)))))) X)) X)) X))))))) ∧ (¬ (r84 = (-1)) → (C_X12_stop l g h83 x0 3 (h83.1 x0 15) (fun r103 h102 => ( (r103 = 128) ∧ ( X h102))))))))))) ∧ (¬ (h79.1 x0 14 = 2) → (C_X12_stop l g h79 x0 1 (h79.1 x0 15) (fun r107 h106 => ( (r107 = 128) ∧ ( X h106)))))))))) ∧ (h73.1 x1 0 = 8 → (C_X12_stop l g h73 x0 5 (h73.1 x0 15) (fun r111 h110 => ( (r111 = 128) ∧ ( X h110))))))))) ∧ (r74 = 0 → (C_X12_stop l g h73 x0 1 (h73.1 x0 15) (fun r115 h114 => ( (r115 = 128) ∧ ( X h114))))))))))))) : L_X12_reads_184 l g h x0 x1 x2  Q X := by
  refine wp_iload_n 2 dX12_reads_184 rfl rfl ?_
  refine wp_if_eq (tgt := 342) dX12_reads_185 (by decide) (fun c70 => ?_) (fun c70 => ?_)
  · have hb := hb.1 c70
    refine wp_iconst (v := (-1)) dX12_reads_342 (by decide) ?_
    refine wp_istore_n (lv2 := [(3, .int (-1)), (0, .ref x0), (1, .ref x1), (2, .int x2)]) dX12_reads_343 rfl (by decide) rfl ?_
    refine wp_iconst (v := 0) dX12_reads_344 (by decide) ?_
    refine wp_istore (lv2 := [(4, .int 0), (3, .int (-1)), (0, .ref x0), (1, .ref x1), (2, .int x2)]) dX12_reads_345 (by decide) rfl ?_
    exact wp_sub [2, 3, 1, 0] rfl hb
  · have hb := hb.2 c70
    obtain ⟨i71, hb⟩ := hb
    refine wp_aload_n 0 dX12_reads_188 rfl rfl ?_
    refine wp_ldcS (q := ("WindowHouseModel", 227, "window", 13)) dX12_reads_189 (by decide +kernel) rfl rfl (by decide) ?_
    refine wp_callV (as := [.ref 1013]) dX12_reads_191 cb_X12_isWord lk_X12_191 im_X12_isWord se_X12_isWord rfl (Nat.le_of_ble_eq_true rfl) ⟨by decide, by decide⟩ ⟨Nat.le_refl _, Nat.le_refl _, Nat.le_refl _⟩ i71 rfl (by decide) hb (fun r0 h73 hb => ?_)
    obtain ⟨r74, rfl, hb⟩ := hb
    refine wp_if_ne (tgt := 207) dX12_reads_194 (by decide) (fun c75 => ?_) (fun c75 => ?_)
    · have hb := hb.1 c75
      obtain ⟨i76, hb⟩ := hb
      refine wp_aload_n 1 dX12_reads_207 rfl rfl ?_
      refine wp_getI dX12_reads_208 fl_X12_205 i76 ?_
      refine wp_bipush (v := 8) dX12_reads_211 (by decide) ?_
      refine wp_icmp_ne (tgt := 226) dX12_reads_213 (by decide) (fun c77 => ?_) (fun c77 => ?_)
      · have hb := hb.1 c77
        refine wp_aload_n 0 dX12_reads_226 rfl rfl ?_
        refine wp_callV (as := []) dX12_reads_227 cb_X12_next lk_X12_188 im_X12_next se_X12_next rfl (Nat.le_of_ble_eq_true rfl) ⟨by decide, by decide⟩ ⟨Nat.le_refl _, Nat.le_refl _, Nat.le_refl _⟩ i71 rfl (by decide) hb (fun r0 h79 hb => ?_)
        obtain ⟨rfl, hb⟩ := hb
        refine wp_aload_n 0 dX12_reads_230 rfl rfl ?_
        refine wp_getI dX12_reads_231 fl_X12_159 i71 ?_
        refine wp_iconst (v := 2) dX12_reads_234 (by decide) ?_
        refine wp_icmp_eq (tgt := 248) dX12_reads_235 (by decide) (fun c80 => ?_) (fun c80 => ?_)
        · have hb := hb.1 c80
          refine wp_aload_n 1 dX12_reads_248 rfl rfl ?_
          obtain ⟨i81, hb⟩ := hb
          refine wp_getR dX12_reads_249 fl_X12_228 i76 (i81.ne (by decide)) ?_
          refine wp_iconst (v := 0) dX12_reads_252 (by decide) ?_
          refine wp_aload_n 1 dX12_reads_253 rfl rfl ?_
          refine wp_getI dX12_reads_254 fl_X12_205 i76 ?_
          refine wp_aload_n 0 dX12_reads_257 rfl rfl ?_
          refine wp_getL dX12_reads_258 fl_X12_169 i71 ?_
          refine wp_callS (as := [.ref (h79.2.2 x1 3), .int 0, .int (h79.1 x1 0), .long (h79.2.1 x0 18)]) dX12_reads_261 cb_X12_find lk_X12_201 st_X12_find rfl (Nat.le_of_ble_eq_true rfl) ⟨by decide, by decide⟩ ⟨Nat.le_refl _, Nat.le_refl _, Nat.le_refl _⟩ hb (fun r0 h83 hb => ?_)
          obtain ⟨r84, rfl, hb⟩ := hb
          refine wp_iconst (v := (-1)) dX12_reads_264 (by decide) ?_
          refine wp_icmp_eq (tgt := 278) dX12_reads_265 (by decide) (fun c85 => ?_) (fun c85 => ?_)
          · have hb := hb.1 c85
            refine wp_aload_n 1 dX12_reads_278 rfl rfl ?_
            obtain ⟨i86, hb⟩ := hb
            refine wp_getR dX12_reads_279 fl_X12_228 i76 (i86.ne (by decide)) ?_
            refine wp_aload_n 1 dX12_reads_282 rfl rfl ?_
            refine wp_getI dX12_reads_283 fl_X12_205 i76 ?_
            refine wp_aload_n 0 dX12_reads_286 rfl rfl ?_
            refine wp_getL dX12_reads_287 fl_X12_169 i71 ?_
            obtain ⟨b87, hb⟩ := hb
            refine wp_lastore dX12_reads_290 i86 b87 ?_
            refine wp_topH (fun h88 e89 => ?_)
            have hb := hb h88 e89
            refine wp_aload_n 0 dX12_reads_291 rfl rfl ?_
            refine wp_callV (as := []) dX12_reads_292 cb_X12_next lk_X12_188 im_X12_next se_X12_next rfl (Nat.le_of_ble_eq_true rfl) ⟨by decide, by decide⟩ ⟨Nat.le_refl _, Nat.le_refl _, Nat.le_refl _⟩ i71 rfl (by decide) hb (fun r0 h91 hb => ?_)
            obtain ⟨rfl, hb⟩ := hb
            refine wp_aload_n 0 dX12_reads_295 rfl rfl ?_
            refine wp_bipush (v := 123) dX12_reads_296 (by decide) ?_
            refine wx_callV (as := [.int 123]) dX12_reads_298 cb_X12_need lk_X12_223 im_X12_need se_X12_need rfl (Nat.le_of_ble_eq_true rfl) ⟨by decide, by decide⟩ (Nat.le_refl _) i71 rfl (by decide) (by decide) rfl hb (fun r0 h93 hb => ?_) (fun _ hx => hx)
            obtain ⟨rfl, hb⟩ := hb
            refine wp_aload_n 0 dX12_reads_301 rfl rfl ?_
            refine wp_aload_n 1 dX12_reads_302 rfl rfl ?_
            refine wp_getI dX12_reads_303 fl_X12_205 i76 ?_
            refine wx_callV (as := [.int (h93.1 x1 0)]) dX12_reads_306 cb_X12_readWindow lk_X12_231 im_X12_readWindow se_X12_readWindow rfl (Nat.le_of_ble_eq_true rfl) ⟨by decide, by decide⟩ (Nat.le_refl _) i71 rfl (by decide) (by decide) rfl hb (fun r0 h95 hb => ?_) (fun _ hx => hx)
            obtain ⟨rfl, hb⟩ := hb
            refine wp_aload_n 0 dX12_reads_309 rfl rfl ?_
            refine wp_bipush (v := 125) dX12_reads_310 (by decide) ?_
            refine wx_callV (as := [.int 125]) dX12_reads_312 cb_X12_need lk_X12_223 im_X12_need se_X12_need rfl (Nat.le_of_ble_eq_true rfl) ⟨by decide, by decide⟩ (Nat.le_refl _) i71 rfl (by decide) (by decide) rfl hb (fun r0 h97 hb => ?_) (fun _ hx => hx)
            obtain ⟨rfl, hb⟩ := hb
            refine wp_aload_n 1 dX12_reads_315 rfl rfl ?_
            refine wp_dup dX12_reads_316 rfl ?_
            refine wp_getI dX12_reads_317 fl_X12_205 i76 ?_
            refine wp_iconst (v := 1) dX12_reads_320 (by decide) ?_
            refine wp_iadd dX12_reads_321 ?_
            refine wp_putI dX12_reads_322 fl_X12_205 (Or.inl rfl) i76 ?_
            refine wp_topH (fun h98 e99 => ?_)
            have hb := hb h98 e99
            refine wp_aload_n 0 dX12_reads_325 rfl rfl ?_
            refine wp_getI dX12_reads_326 fl_X12_159 i71 ?_
            refine wp_iconst (v := 1) dX12_reads_329 (by decide) ?_
            refine wp_icmp_eq (tgt := 337) dX12_reads_330 (by decide) (fun c100 => ?_) (fun c100 => ?_)
            · have hb := hb.1 c100
              refine wp_iconst (v := 0) dX12_reads_337 (by decide) ?_
              refine wp_istore_n (lv2 := [(2, .int 0), (0, .ref x0), (1, .ref x1)]) dX12_reads_338 rfl (by decide) rfl ?_
              refine wp_goto (tgt := 184) dX12_reads_339 (by decide) ?_
              exact wp_sub [1, 2, 0] rfl hb
            · have hb := hb.2 c100
              refine wp_iconst (v := 1) dX12_reads_333 (by decide) ?_
              refine wp_goto (tgt := 338) dX12_reads_334 (by decide) ?_
              refine wp_istore_n (lv2 := [(2, .int 1), (0, .ref x0), (1, .ref x1)]) dX12_reads_338 rfl (by decide) rfl ?_
              refine wp_goto (tgt := 184) dX12_reads_339 (by decide) ?_
              exact wp_sub [1, 2, 0] rfl hb
          · have hb := hb.2 c85
            refine wp_aload_n 0 dX12_reads_268 rfl rfl ?_
            refine wp_iconst (v := 3) dX12_reads_269 (by decide) ?_
            refine wp_aload_n 0 dX12_reads_270 rfl rfl ?_
            refine wp_getI dX12_reads_271 fl_X12_158 i71 ?_
            refine wp_callV (as := [.int 3, .int (h83.1 x0 15)]) dX12_reads_274 cb_X12_stop lk_X12_185 im_X12_stop se_X12_stop rfl (Nat.le_of_ble_eq_true rfl) ⟨by decide, by decide⟩ ⟨Nat.le_refl _, Nat.le_refl _, Nat.le_refl _⟩ i71 rfl (by decide) hb (fun r0 h102 hb => ?_)
            obtain ⟨r103, rfl, hb⟩ := hb
            obtain ⟨q104, hb⟩ := hb
            exact wx_throw rfl dX12_reads_277 q104 (by decide) hb
        · have hb := hb.2 c80
          refine wp_aload_n 0 dX12_reads_238 rfl rfl ?_
          refine wp_iconst (v := 1) dX12_reads_239 (by decide) ?_
          refine wp_aload_n 0 dX12_reads_240 rfl rfl ?_
          refine wp_getI dX12_reads_241 fl_X12_158 i71 ?_
          refine wp_callV (as := [.int 1, .int (h79.1 x0 15)]) dX12_reads_244 cb_X12_stop lk_X12_185 im_X12_stop se_X12_stop rfl (Nat.le_of_ble_eq_true rfl) ⟨by decide, by decide⟩ ⟨Nat.le_refl _, Nat.le_refl _, Nat.le_refl _⟩ i71 rfl (by decide) hb (fun r0 h106 hb => ?_)
          obtain ⟨r107, rfl, hb⟩ := hb
          obtain ⟨q108, hb⟩ := hb
          exact wx_throw rfl dX12_reads_247 q108 (by decide) hb
      · have hb := hb.2 c77
        refine wp_aload_n 0 dX12_reads_216 rfl rfl ?_
        refine wp_iconst (v := 5) dX12_reads_217 (by decide) ?_
        refine wp_aload_n 0 dX12_reads_218 rfl rfl ?_
        refine wp_getI dX12_reads_219 fl_X12_158 i71 ?_
        refine wp_callV (as := [.int 5, .int (h73.1 x0 15)]) dX12_reads_222 cb_X12_stop lk_X12_185 im_X12_stop se_X12_stop rfl (Nat.le_of_ble_eq_true rfl) ⟨by decide, by decide⟩ ⟨Nat.le_refl _, Nat.le_refl _, Nat.le_refl _⟩ i71 rfl (by decide) hb (fun r0 h110 hb => ?_)
        obtain ⟨r111, rfl, hb⟩ := hb
        obtain ⟨q112, hb⟩ := hb
        exact wx_throw rfl dX12_reads_225 q112 (by decide) hb
    · have hb := hb.2 c75
      refine wp_aload_n 0 dX12_reads_197 rfl rfl ?_
      refine wp_iconst (v := 1) dX12_reads_198 (by decide) ?_
      refine wp_aload_n 0 dX12_reads_199 rfl rfl ?_
      refine wp_getI dX12_reads_200 fl_X12_158 i71 ?_
      refine wp_callV (as := [.int 1, .int (h73.1 x0 15)]) dX12_reads_203 cb_X12_stop lk_X12_185 im_X12_stop se_X12_stop rfl (Nat.le_of_ble_eq_true rfl) ⟨by decide, by decide⟩ ⟨Nat.le_refl _, Nat.le_refl _, Nat.le_refl _⟩ i71 rfl (by decide) hb (fun r0 h114 hb => ?_)
      obtain ⟨r115, rfl, hb⟩ := hb
      obtain ⟨q116, hb⟩ := hb
      exact wx_throw rfl dX12_reads_206 q116 (by decide) hb
set_option maxRecDepth 100000 in
set_option maxHeartbeats 4000000 in
theorem s_X12_reads_347 {l : Launch} {g : AG} {h : AH} {x0 : Nat} {x1 : Nat} {x3 : Int32} {x4 : Int32}  {Q : AH → Prop} {X : AH → Prop} (hb : ((32 ≤ x4 → (((x3 = (-1) → (Q h)) ∧ (¬ (x3 = (-1)) → ((Is 194 x0 11) ∧ ( C_X12_stop l g h x0 2 x3 (fun r122 h121 => ( (r122 = 128) ∧ ( X h121))))))))) ∧ (¬ (32 ≤ x4) → (((24 ≤ x4 → ((Is 194 x1 9) ∧ ( ((h.1 x1 0 ≤ x4 - 24 → (∀ v127 : Int32, v127 = x4 + (1) → ( L_X12_reads_347 l g h x0 x1 x3 v127  Q X))) ∧ (¬ (h.1 x1 0 ≤ x4 - 24) → ((Is 194 (h.2.2 x1 9) 20) ∧ ( (vp_in (x4 - 24) (ax_s (h.2.2 x1 9)).2) ∧ ( ((¬ h.1 (h.2.2 x1 9) (x4 - 24).toNatClampNeg = 0 → (∀ v132 : Int32, v132 = (4 * x4) → ( L_X12_reads_407 l g h x0 x1 x3 x4 v132  Q X))) ∧ (h.1 (h.2.2 x1 9) (x4 - 24).toNatClampNeg = 0 → (∀ v134 : Int32, v134 = x4 + (1) → ( L_X12_reads_347 l g h x0 x1 x3 v134  Q X)))))))))))) ∧ (¬ (24 ≤ x4) → ((Is 194 x1 9) ∧ ( ((x4 < h.1 x1 1 → (∀ v138 : Int32, v138 = (4 * x4) → ( L_X12_reads_407 l g h x0 x1 x3 x4 v138  Q X))) ∧ (¬ (x4 < h.1 x1 1) → (∀ v140 : Int32, v140 = x4 + (1) → ( L_X12_reads_347 l g h x0 x1 x3 v140  Q X)))))))))))) : L_X12_reads_347 l g h x0 x1 x3 x4  Q X := by
  refine wp_iload 3 dX12_reads_347 rfl ?_
  refine wp_bipush (v := 32) dX12_reads_349 (by decide) ?_
  refine wp_icmp_ge (tgt := 510) dX12_reads_351 (by decide) (fun c117 => ?_) (fun c117 => ?_)
  · have hb := hb.1 c117
    refine wp_iload_n 2 dX12_reads_510 rfl rfl ?_
    refine wp_iconst (v := (-1)) dX12_reads_511 (by decide) ?_
    refine wp_icmp_eq (tgt := 522) dX12_reads_512 (by decide) (fun c118 => ?_) (fun c118 => ?_)
    · have hb := hb.1 c118
      exact wx_of (wp_vret rfl dX12_reads_522 ⟨rfl, hb⟩)
    · have hb := hb.2 c118
      obtain ⟨i119, hb⟩ := hb
      refine wp_aload_n 0 dX12_reads_515 rfl rfl ?_
      refine wp_iconst (v := 2) dX12_reads_516 (by decide) ?_
      refine wp_iload_n 2 dX12_reads_517 rfl rfl ?_
      refine wp_callV (as := [.int 2, .int x3]) dX12_reads_518 cb_X12_stop lk_X12_185 im_X12_stop se_X12_stop rfl (Nat.le_of_ble_eq_true rfl) ⟨by decide, by decide⟩ ⟨Nat.le_refl _, Nat.le_refl _, Nat.le_refl _⟩ i119 rfl (by decide) hb (fun r0 h121 hb => ?_)
      obtain ⟨r122, rfl, hb⟩ := hb
      obtain ⟨q123, hb⟩ := hb
      exact wx_throw rfl dX12_reads_521 q123 (by decide) hb
  · have hb := hb.2 c117
    refine wp_iload 3 dX12_reads_354 rfl ?_
    refine wp_bipush (v := 24) dX12_reads_356 (by decide) ?_
    refine wp_icmp_ge (tgt := 373) dX12_reads_358 (by decide) (fun c124 => ?_) (fun c124 => ?_)
    · have hb := hb.1 c124
      refine wp_iload 3 dX12_reads_373 rfl ?_
      refine wp_bipush (v := 24) dX12_reads_375 (by decide) ?_
      refine wp_isub dX12_reads_377 ?_
      obtain ⟨i125, hb⟩ := hb
      refine wp_aload_n 1 dX12_reads_378 rfl rfl ?_
      refine wp_getI dX12_reads_379 fl_X12_205 i125 ?_
      refine wp_icmp_ge (tgt := 504) dX12_reads_382 (by decide) (fun c126 => ?_) (fun c126 => ?_)
      · have hb := hb.1 c126
        obtain ⟨v127, e128⟩ : ∃ y : Int32, y = x4 + (1) := ⟨_, rfl⟩
        have hb := hb v127 e128
        refine wp_iinc (v := v127) (lv2 := [(4, .int v127), (0, .ref x0), (1, .ref x1), (3, .int x3)]) 3 dX12_reads_504 rfl (by rw [e128]; rfl) (by decide) rfl ?_
        refine wp_goto (tgt := 347) dX12_reads_507 (by decide) ?_
        exact wp_sub [1, 2, 3, 0] rfl hb
      · have hb := hb.2 c126
        refine wp_aload_n 1 dX12_reads_385 rfl rfl ?_
        obtain ⟨i129, hb⟩ := hb
        refine wp_getR dX12_reads_386 fl_X12_234 i125 (i129.ne (by decide)) ?_
        refine wp_iload 3 dX12_reads_389 rfl ?_
        refine wp_bipush (v := 24) dX12_reads_391 (by decide) ?_
        refine wp_isub dX12_reads_393 ?_
        obtain ⟨b130, hb⟩ := hb
        refine wp_iaload dX12_reads_394 i129 b130 ?_
        refine wp_if_ne (tgt := 401) dX12_reads_395 (by decide) (fun c131 => ?_) (fun c131 => ?_)
        · have hb := hb.1 c131
          refine wp_iconst (v := 4) dX12_reads_401 (by decide) ?_
          refine wp_iload 3 dX12_reads_402 rfl ?_
          refine wp_imul dX12_reads_404 ?_
          refine wp_topi (fun v132 e133 => ?_)
          have hb := hb v132 e133
          refine wp_istore (lv2 := [(5, .int v132), (0, .ref x0), (1, .ref x1), (3, .int x3), (4, .int x4)]) dX12_reads_405 (by decide) rfl ?_
          exact wp_sub [1, 2, 3, 4, 0] rfl hb
        · have hb := hb.2 c131
          refine wp_goto (tgt := 504) dX12_reads_398 (by decide) ?_
          obtain ⟨v134, e135⟩ : ∃ y : Int32, y = x4 + (1) := ⟨_, rfl⟩
          have hb := hb v134 e135
          refine wp_iinc (v := v134) (lv2 := [(4, .int v134), (0, .ref x0), (1, .ref x1), (3, .int x3)]) 3 dX12_reads_504 rfl (by rw [e135]; rfl) (by decide) rfl ?_
          refine wp_goto (tgt := 347) dX12_reads_507 (by decide) ?_
          exact wp_sub [1, 2, 3, 0] rfl hb
    · have hb := hb.2 c124
      refine wp_iload 3 dX12_reads_361 rfl ?_
      obtain ⟨i136, hb⟩ := hb
      refine wp_aload_n 1 dX12_reads_363 rfl rfl ?_
      refine wp_getI dX12_reads_364 fl_X12_208 i136 ?_
      refine wp_icmp_lt (tgt := 401) dX12_reads_367 (by decide) (fun c137 => ?_) (fun c137 => ?_)
      · have hb := hb.1 c137
        refine wp_iconst (v := 4) dX12_reads_401 (by decide) ?_
        refine wp_iload 3 dX12_reads_402 rfl ?_
        refine wp_imul dX12_reads_404 ?_
        refine wp_topi (fun v138 e139 => ?_)
        have hb := hb v138 e139
        refine wp_istore (lv2 := [(5, .int v138), (0, .ref x0), (1, .ref x1), (3, .int x3), (4, .int x4)]) dX12_reads_405 (by decide) rfl ?_
        exact wp_sub [1, 2, 3, 4, 0] rfl hb
      · have hb := hb.2 c137
        refine wp_goto (tgt := 504) dX12_reads_370 (by decide) ?_
        obtain ⟨v140, e141⟩ : ∃ y : Int32, y = x4 + (1) := ⟨_, rfl⟩
        have hb := hb v140 e141
        refine wp_iinc (v := v140) (lv2 := [(4, .int v140), (0, .ref x0), (1, .ref x1), (3, .int x3)]) 3 dX12_reads_504 rfl (by rw [e141]; rfl) (by decide) rfl ?_
        refine wp_goto (tgt := 347) dX12_reads_507 (by decide) ?_
        exact wp_sub [1, 2, 3, 0] rfl hb
set_option maxRecDepth 100000 in
set_option maxHeartbeats 4000000 in
theorem s_X12_reads_407 {l : Launch} {g : AG} {h : AH} {x0 : Nat} {x1 : Nat} {x3 : Int32} {x4 : Int32} {x5 : Int32}  {Q : AH → Prop} {X : AH → Prop} (hb : (Is 194 x1 9) ∧ ( (Is 194 (h.2.2 x1 11) 20) ∧ ( (vp_in x4 (ax_s (h.2.2 x1 11)).2) ∧ ( (((4 * x4) + (h.1 (h.2.2 x1 11) x4.toNatClampNeg) ≤ x5 → (∀ v146 : Int32, v146 = x4 + (1) → ( L_X12_reads_347 l g h x0 x1 x3 v146  Q X))) ∧ (¬ ((4 * x4) + (h.1 (h.2.2 x1 11) x4.toNatClampNeg) ≤ x5) → ((Is 194 (h.2.2 x1 12) 20) ∧ ( (vp_in x5 (ax_s (h.2.2 x1 12)).2) ∧ ( ((h.1 (h.2.2 x1 12) x5.toNatClampNeg = 0 → ((Is 194 (h.2.2 x1 13) 20) ∧ ( (Is 194 (h.2.2 x1 3) 21) ∧ ( (Is 194 (h.2.2 x1 15) 21) ∧ ( (vp_in x5 (ax_s (h.2.2 x1 15)).2) ∧ ( C_X12_find l g h (h.2.2 x1 3) 0 (h.1 x1 0) (h.2.1 (h.2.2 x1 15) x5.toNatClampNeg) (fun r157 h156 => ( (vp_in x5 (ax_s (h.2.2 x1 13)).2) ∧ ( ∀ h159 : AH, h159 = ax_setI h156 (h.2.2 x1 13) x5.toNatClampNeg r157 → ( (Is 194 (h159.2.2 x1 13) 20) ∧ ( (vp_in x5 (ax_s (h159.2.2 x1 13)).2) ∧ ( ((¬ h159.1 (h159.2.2 x1 13) x5.toNatClampNeg = (-1) → (∀ v164 : Int32, v164 = x5 + (1) → ( L_X12_reads_407 l g h159 x0 x1 x3 x4 v164  Q X))) ∧ (h159.1 (h159.2.2 x1 13) x5.toNatClampNeg = (-1) → (((x3 = (-1) → ((Is 194 (h159.2.2 x1 16) 20) ∧ ( (vp_in x5 (ax_s (h159.2.2 x1 16)).2) ∧ ( ∀ v169 : Int32, v169 = (h159.1 (h159.2.2 x1 16) x5.toNatClampNeg) → ( ∀ v171 : Int32, v171 = x5 + (1) → ( L_X12_reads_407 l g h159 x0 x1 v169 x4 v171  Q X)))))) ∧ (¬ (x3 = (-1)) → ((Is 194 (h159.2.2 x1 16) 20) ∧ ( (vp_in x5 (ax_s (h159.2.2 x1 16)).2) ∧ ( ((x3 ≤ h159.1 (h159.2.2 x1 16) x5.toNatClampNeg → (∀ v176 : Int32, v176 = x5 + (1) → ( L_X12_reads_407 l g h159 x0 x1 x3 x4 v176  Q X))) ∧ (¬ (x3 ≤ h159.1 (h159.2.2 x1 16) x5.toNatClampNeg) → ((Is 194 (h159.2.2 x1 16) 20) ∧ ( (vp_in x5 (ax_s (h159.2.2 x1 16)).2) ∧ ( ∀ v180 : Int32, v180 = (h159.1 (h159.2.2 x1 16) x5.toNatClampNeg) → ( ∀ v182 : Int32, v182 = x5 + (1) → ( L_X12_reads_407 l g h159 x0 x1 v180 x4 v182  Q X))))))))))))))))))))))))))) ∧ (¬ (h.1 (h.2.2 x1 12) x5.toNatClampNeg = 0) → (∀ v184 : Int32, v184 = x5 + (1) → ( L_X12_reads_407 l g h x0 x1 x3 x4 v184  Q X))))))))))))) : L_X12_reads_407 l g h x0 x1 x3 x4 x5  Q X := by
  refine wp_iload 4 dX12_reads_407 rfl ?_
  refine wp_iconst (v := 4) dX12_reads_409 (by decide) ?_
  refine wp_iload 3 dX12_reads_410 rfl ?_
  refine wp_imul dX12_reads_412 ?_
  obtain ⟨i142, hb⟩ := hb
  refine wp_aload_n 1 dX12_reads_413 rfl rfl ?_
  obtain ⟨i143, hb⟩ := hb
  refine wp_getR dX12_reads_414 fl_X12_237 i142 (i143.ne (by decide)) ?_
  refine wp_iload 3 dX12_reads_417 rfl ?_
  obtain ⟨b144, hb⟩ := hb
  refine wp_iaload dX12_reads_419 i143 b144 ?_
  refine wp_iadd dX12_reads_420 ?_
  refine wp_icmp_ge (tgt := 504) dX12_reads_421 (by decide) (fun c145 => ?_) (fun c145 => ?_)
  · have hb := hb.1 c145
    obtain ⟨v146, e147⟩ : ∃ y : Int32, y = x4 + (1) := ⟨_, rfl⟩
    have hb := hb v146 e147
    refine wp_iinc (v := v146) (lv2 := [(4, .int v146), (0, .ref x0), (1, .ref x1), (3, .int x3), (5, .int x5)]) 3 dX12_reads_504 rfl (by rw [e147]; rfl) (by decide) rfl ?_
    refine wp_goto (tgt := 347) dX12_reads_507 (by decide) ?_
    exact wp_sub [1, 2, 3, 0] rfl hb
  · have hb := hb.2 c145
    refine wp_aload_n 1 dX12_reads_424 rfl rfl ?_
    obtain ⟨i148, hb⟩ := hb
    refine wp_getR dX12_reads_425 fl_X12_240 i142 (i148.ne (by decide)) ?_
    refine wp_iload 4 dX12_reads_428 rfl ?_
    obtain ⟨b149, hb⟩ := hb
    refine wp_iaload dX12_reads_430 i148 b149 ?_
    refine wp_if_eq (tgt := 437) dX12_reads_431 (by decide) (fun c150 => ?_) (fun c150 => ?_)
    · have hb := hb.1 c150
      refine wp_aload_n 1 dX12_reads_437 rfl rfl ?_
      obtain ⟨i151, hb⟩ := hb
      refine wp_getR dX12_reads_438 fl_X12_243 i142 (i151.ne (by decide)) ?_
      refine wp_iload 4 dX12_reads_441 rfl ?_
      refine wp_aload_n 1 dX12_reads_443 rfl rfl ?_
      obtain ⟨i152, hb⟩ := hb
      refine wp_getR dX12_reads_444 fl_X12_228 i142 (i152.ne (by decide)) ?_
      refine wp_iconst (v := 0) dX12_reads_447 (by decide) ?_
      refine wp_aload_n 1 dX12_reads_448 rfl rfl ?_
      refine wp_getI dX12_reads_449 fl_X12_205 i142 ?_
      refine wp_aload_n 1 dX12_reads_452 rfl rfl ?_
      obtain ⟨i153, hb⟩ := hb
      refine wp_getR dX12_reads_453 fl_X12_246 i142 (i153.ne (by decide)) ?_
      refine wp_iload 4 dX12_reads_456 rfl ?_
      obtain ⟨b154, hb⟩ := hb
      refine wp_laload dX12_reads_458 i153 b154 ?_
      refine wp_callS (as := [.ref (h.2.2 x1 3), .int 0, .int (h.1 x1 0), .long (h.2.1 (h.2.2 x1 15) x5.toNatClampNeg)]) dX12_reads_459 cb_X12_find lk_X12_201 st_X12_find rfl (Nat.le_of_ble_eq_true rfl) ⟨by decide, by decide⟩ ⟨Nat.le_refl _, Nat.le_refl _, Nat.le_refl _⟩ hb (fun r0 h156 hb => ?_)
      obtain ⟨r157, rfl, hb⟩ := hb
      obtain ⟨b158, hb⟩ := hb
      refine wp_iastore dX12_reads_462 i151 b158 ?_
      refine wp_topH (fun h159 e160 => ?_)
      have hb := hb h159 e160
      refine wp_aload_n 1 dX12_reads_463 rfl rfl ?_
      obtain ⟨i161, hb⟩ := hb
      refine wp_getR dX12_reads_464 fl_X12_243 i142 (i161.ne (by decide)) ?_
      refine wp_iload 4 dX12_reads_467 rfl ?_
      obtain ⟨b162, hb⟩ := hb
      refine wp_iaload dX12_reads_469 i161 b162 ?_
      refine wp_iconst (v := (-1)) dX12_reads_470 (by decide) ?_
      refine wp_icmp_ne (tgt := 498) dX12_reads_471 (by decide) (fun c163 => ?_) (fun c163 => ?_)
      · have hb := hb.1 c163
        obtain ⟨v164, e165⟩ : ∃ y : Int32, y = x5 + (1) := ⟨_, rfl⟩
        have hb := hb v164 e165
        refine wp_iinc (v := v164) (lv2 := [(5, .int v164), (0, .ref x0), (1, .ref x1), (3, .int x3), (4, .int x4)]) 4 dX12_reads_498 rfl (by rw [e165]; rfl) (by decide) rfl ?_
        refine wp_goto (tgt := 407) dX12_reads_501 (by decide) ?_
        exact wp_sub [1, 2, 3, 4, 0] rfl hb
      · have hb := hb.2 c163
        refine wp_iload_n 2 dX12_reads_474 rfl rfl ?_
        refine wp_iconst (v := (-1)) dX12_reads_475 (by decide) ?_
        refine wp_icmp_eq (tgt := 490) dX12_reads_476 (by decide) (fun c166 => ?_) (fun c166 => ?_)
        · have hb := hb.1 c166
          refine wp_aload_n 1 dX12_reads_490 rfl rfl ?_
          obtain ⟨i167, hb⟩ := hb
          refine wp_getR dX12_reads_491 fl_X12_249 i142 (i167.ne (by decide)) ?_
          refine wp_iload 4 dX12_reads_494 rfl ?_
          obtain ⟨b168, hb⟩ := hb
          refine wp_iaload dX12_reads_496 i167 b168 ?_
          refine wp_topi (fun v169 e170 => ?_)
          have hb := hb v169 e170
          refine wp_istore_n (lv2 := [(3, .int v169), (0, .ref x0), (1, .ref x1), (4, .int x4), (5, .int x5)]) dX12_reads_497 rfl (by decide) rfl ?_
          obtain ⟨v171, e172⟩ : ∃ y : Int32, y = x5 + (1) := ⟨_, rfl⟩
          have hb := hb v171 e172
          refine wp_iinc (v := v171) (lv2 := [(5, .int v171), (3, .int v169), (0, .ref x0), (1, .ref x1), (4, .int x4)]) 4 dX12_reads_498 rfl (by rw [e172]; rfl) (by decide) rfl ?_
          refine wp_goto (tgt := 407) dX12_reads_501 (by decide) ?_
          exact wp_sub [2, 3, 1, 4, 0] rfl hb
        · have hb := hb.2 c166
          refine wp_aload_n 1 dX12_reads_479 rfl rfl ?_
          obtain ⟨i173, hb⟩ := hb
          refine wp_getR dX12_reads_480 fl_X12_249 i142 (i173.ne (by decide)) ?_
          refine wp_iload 4 dX12_reads_483 rfl ?_
          obtain ⟨b174, hb⟩ := hb
          refine wp_iaload dX12_reads_485 i173 b174 ?_
          refine wp_iload_n 2 dX12_reads_486 rfl rfl ?_
          refine wp_icmp_ge (tgt := 498) dX12_reads_487 (by decide) (fun c175 => ?_) (fun c175 => ?_)
          · have hb := hb.1 c175
            obtain ⟨v176, e177⟩ : ∃ y : Int32, y = x5 + (1) := ⟨_, rfl⟩
            have hb := hb v176 e177
            refine wp_iinc (v := v176) (lv2 := [(5, .int v176), (0, .ref x0), (1, .ref x1), (3, .int x3), (4, .int x4)]) 4 dX12_reads_498 rfl (by rw [e177]; rfl) (by decide) rfl ?_
            refine wp_goto (tgt := 407) dX12_reads_501 (by decide) ?_
            exact wp_sub [1, 2, 3, 4, 0] rfl hb
          · have hb := hb.2 c175
            refine wp_aload_n 1 dX12_reads_490 rfl rfl ?_
            obtain ⟨i178, hb⟩ := hb
            refine wp_getR dX12_reads_491 fl_X12_249 i142 (i178.ne (by decide)) ?_
            refine wp_iload 4 dX12_reads_494 rfl ?_
            obtain ⟨b179, hb⟩ := hb
            refine wp_iaload dX12_reads_496 i178 b179 ?_
            refine wp_topi (fun v180 e181 => ?_)
            have hb := hb v180 e181
            refine wp_istore_n (lv2 := [(3, .int v180), (0, .ref x0), (1, .ref x1), (4, .int x4), (5, .int x5)]) dX12_reads_497 rfl (by decide) rfl ?_
            obtain ⟨v182, e183⟩ : ∃ y : Int32, y = x5 + (1) := ⟨_, rfl⟩
            have hb := hb v182 e183
            refine wp_iinc (v := v182) (lv2 := [(5, .int v182), (3, .int v180), (0, .ref x0), (1, .ref x1), (4, .int x4)]) 4 dX12_reads_498 rfl (by rw [e183]; rfl) (by decide) rfl ?_
            refine wp_goto (tgt := 407) dX12_reads_501 (by decide) ?_
            exact wp_sub [2, 3, 1, 4, 0] rfl hb
    · have hb := hb.2 c150
      refine wp_goto (tgt := 498) dX12_reads_434 (by decide) ?_
      obtain ⟨v184, e185⟩ : ∃ y : Int32, y = x5 + (1) := ⟨_, rfl⟩
      have hb := hb v184 e185
      refine wp_iinc (v := v184) (lv2 := [(5, .int v184), (0, .ref x0), (1, .ref x1), (3, .int x3), (4, .int x4)]) 4 dX12_reads_498 rfl (by rw [e185]; rfl) (by decide) rfl ?_
      refine wp_goto (tgt := 407) dX12_reads_501 (by decide) ?_
      exact wp_sub [1, 2, 3, 4, 0] rfl hb
theorem c_X12_reads {l : Launch} {g : AG} {h : AH} {x0 : Nat}  {Q : AH → Prop} {X : AH → Prop} (hb : L_X12_reads_0 l g h x0  Q X) : C_X12_reads l g h x0  Q X := ax_metx rfl rfl (Nat.le_of_ble_eq_true rfl) hb
