def C_X3_faultOf (l : Launch) (g : AG) (h : AH) (x0 : Int64)  (Q : Int32 → AH → Prop) : Prop := Ct l g mX3_faultOf 1 21 194 194 h [.long x0] (ax_QI Q)
def L_X3_faultOf_0 (l : Launch) (g : AG) (h : AH) (x0 : Int64)  (Q : Int32 → AH → Prop) : Prop := Wp l g mX3_faultOf 1 21 194 194 194 0 [(0, .long x0)] [] h (FM g 194 194 (ax_QI Q))
set_option maxRecDepth 100000 in
set_option maxHeartbeats 4000000 in
theorem s_X3_faultOf_0 {l : Launch} {g : AG} {h : AH} {x0 : Int64}  {Q : Int32 → AH → Prop} (hb : C_X3_openOf l g h x0 (fun r3 h2 => ( ((r3 ≤ 0 → (Q ((jlushr x0 27).toInt32) h2)) ∧ (¬ (r3 ≤ 0) → (Q 0 h2)))))) : L_X3_faultOf_0 l g h x0  Q := by
  refine wp_lload_n 0 dX3_faultOf_0 rfl rfl ?_
  refine wp_callS (as := [.long x0]) dX3_faultOf_1 cb_X3_openOf lk_X3_17 st_X3_openOf rfl (Nat.le_of_ble_eq_true rfl) ⟨by decide, by decide⟩ ⟨Nat.le_refl _, Nat.le_refl _, Nat.le_refl _⟩ hb (fun r0 h2 hb => ?_)
  obtain ⟨r3, rfl, hb⟩ := hb
  refine wp_if_le (tgt := 11) dX3_faultOf_4 (by decide) (fun c4 => ?_) (fun c4 => ?_)
  · have hb := hb.1 c4
    refine wp_lload_n 0 dX3_faultOf_11 rfl rfl ?_
    refine wp_bipush (v := 27) dX3_faultOf_12 (by decide) ?_
    refine wp_lushr dX3_faultOf_14 ?_
    refine wp_l2i dX3_faultOf_15 ?_
    exact wp_iret rfl dX3_faultOf_16 ⟨_, rfl, hb⟩
  · have hb := hb.2 c4
    refine wp_iconst (v := 0) dX3_faultOf_7 (by decide) ?_
    refine wp_goto (tgt := 16) dX3_faultOf_8 (by decide) ?_
    exact wp_iret rfl dX3_faultOf_16 ⟨_, rfl, hb⟩
theorem c_X3_faultOf {l : Launch} {g : AG} {h : AH} {x0 : Int64}  {Q : Int32 → AH → Prop} (hb : L_X3_faultOf_0 l g h x0  Q) : C_X3_faultOf l g h x0  Q := ax_met rfl (Nat.le_of_ble_eq_true rfl) hb
def C_X0_possibleMany (l : Launch) (g : AG) (h : AH) (x0 : Nat) (x1 : Int64)  (Q : Int32 → AH → Prop) : Prop := Ct l g mX0_possibleMany 3 72 194 194 h [.ref x0, .long x1] (ax_QI Q)
def L_X0_possibleMany_0 (l : Launch) (g : AG) (h : AH) (x0 : Nat) (x1 : Int64)  (Q : Int32 → AH → Prop) : Prop := Wp l g mX0_possibleMany 3 72 194 194 194 0 [(0, .ref x0), (1, .long x1)] [] h (FM g 194 194 (ax_QI Q))
def L_X0_possibleMany_5 (l : Launch) (g : AG) (h : AH) (x0 : Nat) (x1 : Int64) (x3 : Int32) (x4 : Int32)  (Q : Int32 → AH → Prop) : Prop := Wp l g mX0_possibleMany 3 72 194 194 194 5 [(0, .ref x0), (1, .long x1), (3, .int x3), (4, .int x4)] [] h (FM g 194 194 (ax_QI Q))
set_option maxRecDepth 100000 in
set_option maxHeartbeats 4000000 in
theorem s_X0_possibleMany_0 {l : Launch} {g : AG} {h : AH} {x0 : Nat} {x1 : Int64}  {Q : Int32 → AH → Prop} (hb : L_X0_possibleMany_5 l g h x0 x1 0 0  Q) : L_X0_possibleMany_0 l g h x0 x1  Q := by
  refine wp_iconst (v := 0) dX0_possibleMany_0 (by decide) ?_
  refine wp_istore_n (lv2 := [(3, .int 0), (0, .ref x0), (1, .long x1)]) dX0_possibleMany_1 rfl (by decide) rfl ?_
  refine wp_iconst (v := 0) dX0_possibleMany_2 (by decide) ?_
  refine wp_istore (lv2 := [(4, .int 0), (3, .int 0), (0, .ref x0), (1, .long x1)]) dX0_possibleMany_3 (by decide) rfl ?_
  exact wp_sub [2, 3, 1, 0] rfl hb
set_option maxRecDepth 100000 in
set_option maxHeartbeats 4000000 in
theorem s_X0_possibleMany_5 {l : Launch} {g : AG} {h : AH} {x0 : Nat} {x1 : Int64} {x3 : Int32} {x4 : Int32}  {Q : Int32 → AH → Prop} (hb : ((27 ≤ x4 → (Q x3 h)) ∧ (¬ (27 ≤ x4) → ((Is 194 x0 0) ∧ ( C_X0_possible l g h x0 x1 x4 (fun r5 h4 => ( ((r5 = 0 → (∀ v7 : Int32, v7 = x4 + (1) → ( L_X0_possibleMany_5 l g h4 x0 x1 x3 v7  Q))) ∧ (¬ (r5 = 0) → (∀ v9 : Int32, v9 = x3 + (1) → ( ∀ v11 : Int32, v11 = x4 + (1) → ( L_X0_possibleMany_5 l g h4 x0 x1 v9 v11  Q)))))))))))) : L_X0_possibleMany_5 l g h x0 x1 x3 x4  Q := by
  refine wp_iload 3 dX0_possibleMany_5 rfl ?_
  refine wp_bipush (v := 27) dX0_possibleMany_7 (by decide) ?_
  refine wp_icmp_ge (tgt := 31) dX0_possibleMany_9 (by decide) (fun c1 => ?_) (fun c1 => ?_)
  · have hb := hb.1 c1
    refine wp_iload_n 2 dX0_possibleMany_31 rfl rfl ?_
    exact wp_iret rfl dX0_possibleMany_32 ⟨_, rfl, hb⟩
  · have hb := hb.2 c1
    obtain ⟨i2, hb⟩ := hb
    refine wp_aload_n 0 dX0_possibleMany_12 rfl rfl ?_
    refine wp_lload_n 1 dX0_possibleMany_13 rfl rfl ?_
    refine wp_iload 3 dX0_possibleMany_14 rfl ?_
    refine wp_callV (as := [.long x1, .int x4]) dX0_possibleMany_16 cb_X0_possible lk_X0_113 im_X0_possible se_X0_possible rfl (Nat.le_of_ble_eq_true rfl) ⟨by decide, by decide⟩ ⟨Nat.le_refl _, Nat.le_refl _, Nat.le_refl _⟩ i2 rfl (by decide) hb (fun r0 h4 hb => ?_)
    obtain ⟨r5, rfl, hb⟩ := hb
    refine wp_if_eq (tgt := 25) dX0_possibleMany_19 (by decide) (fun c6 => ?_) (fun c6 => ?_)
    · have hb := hb.1 c6
      obtain ⟨v7, e8⟩ : ∃ y : Int32, y = x4 + (1) := ⟨_, rfl⟩
      have hb := hb v7 e8
      refine wp_iinc (v := v7) (lv2 := [(4, .int v7), (0, .ref x0), (1, .long x1), (3, .int x3)]) 3 dX0_possibleMany_25 rfl (by rw [e8]; rfl) (by decide) rfl ?_
      refine wp_goto (tgt := 5) dX0_possibleMany_28 (by decide) ?_
      exact wp_sub [1, 2, 3, 0] rfl hb
    · have hb := hb.2 c6
      obtain ⟨v9, e10⟩ : ∃ y : Int32, y = x3 + (1) := ⟨_, rfl⟩
      have hb := hb v9 e10
      refine wp_iinc (v := v9) (lv2 := [(3, .int v9), (0, .ref x0), (1, .long x1), (4, .int x4)]) 2 dX0_possibleMany_22 rfl (by rw [e10]; rfl) (by decide) rfl ?_
      obtain ⟨v11, e12⟩ : ∃ y : Int32, y = x4 + (1) := ⟨_, rfl⟩
      have hb := hb v11 e12
      refine wp_iinc (v := v11) (lv2 := [(4, .int v11), (3, .int v9), (0, .ref x0), (1, .long x1)]) 3 dX0_possibleMany_25 rfl (by rw [e12]; rfl) (by decide) rfl ?_
      refine wp_goto (tgt := 5) dX0_possibleMany_28 (by decide) ?_
      exact wp_sub [2, 3, 1, 0] rfl hb
theorem c_X0_possibleMany {l : Launch} {g : AG} {h : AH} {x0 : Nat} {x1 : Int64}  {Q : Int32 → AH → Prop} (hb : L_X0_possibleMany_0 l g h x0 x1  Q) : C_X0_possibleMany l g h x0 x1  Q := ax_met rfl (Nat.le_of_ble_eq_true rfl) hb
def C_X9_state (l : Launch) (g : AG) (h : AH) (x0 : Nat) (x1 : Int32) (x2 : Int32)  (Q : Int32 → AH → Prop) : Prop := Ct l g mX9_state 4 96 194 194 h [.ref x0, .int x1, .int x2] (ax_QI Q)
def L_X9_state_0 (l : Launch) (g : AG) (h : AH) (x0 : Nat) (x1 : Int32) (x2 : Int32)  (Q : Int32 → AH → Prop) : Prop := Wp l g mX9_state 4 96 194 194 194 0 [(0, .ref x0), (1, .int x1), (2, .int x2)] [] h (FM g 194 194 (ax_QI Q))
set_option maxRecDepth 100000 in
set_option maxHeartbeats 4000000 in
theorem s_X9_state_0 {l : Launch} {g : AG} {h : AH} {x0 : Nat} {x1 : Int32} {x2 : Int32}  {Q : Int32 → AH → Prop} (hb : (Is 194 x0 8) ∧ ( C_X9_has l g h x0 x1 (fun r4 h3 => ( ((¬ r4 = 0 → ((Is 194 (h3.2.2 x0 5) 21) ∧ ( (vp_in x1 (ax_s (h3.2.2 x0 5)).2) ∧ ( ∀ v8 : Int64, v8 = (h3.2.1 (h3.2.2 x0 5) x1.toNatClampNeg) → ( ((x2 = 0 → (C_X3_faultOf l g h3 v8 (fun r13 h12 => ( Q r13 h12)))) ∧ (¬ x2 = 0 → (((x2 = 1 → (C_X3_openOf l g h3 v8 (fun r17 h16 => ( Q r17 h16)))) ∧ (¬ x2 = 1 → (((x2 = 2 → (C_X3_topOf l g h3 v8 (fun r21 h20 => ( Q r21 h20)))) ∧ (¬ x2 = 2 → (((x2 = 3 → (C_X3_ticksOf l g h3 v8 (fun r25 h24 => ( Q r25 h24)))) ∧ (¬ x2 = 3 → (((x2 = 4 → ((Is 194 (h3.2.2 x0 2) 24) ∧ ( (vp_in x1 (ax_s (h3.2.2 x0 2)).2) ∧ ( (Is 194 (h3.2.2 (h3.2.2 x0 2) x1.toNatClampNeg) 0) ∧ ( C_X0_possibleMany l g h3 (h3.2.2 (h3.2.2 x0 2) x1.toNatClampNeg) v8 (fun r32 h31 => ( Q r32 h31))))))) ∧ (¬ x2 = 4 → (Q (-1) h3)))))))))))))))))))) ∧ (r4 = 0 → (Q (-1) h3))))))) : L_X9_state_0 l g h x0 x1 x2  Q := by
  obtain ⟨i1, hb⟩ := hb
  refine wp_aload_n 0 dX9_state_0 rfl rfl ?_
  refine wp_iload_n 1 dX9_state_1 rfl rfl ?_
  refine wp_callV (as := [.int x1]) dX9_state_2 cb_X9_has lk_X9_106 im_X9_has se_X9_has rfl (Nat.le_of_ble_eq_true rfl) ⟨by decide, by decide⟩ ⟨Nat.le_refl _, Nat.le_refl _, Nat.le_refl _⟩ i1 rfl (by decide) hb (fun r0 h3 hb => ?_)
  obtain ⟨r4, rfl, hb⟩ := hb
  refine wp_if_ne (tgt := 10) dX9_state_5 (by decide) (fun c5 => ?_) (fun c5 => ?_)
  · have hb := hb.1 c5
    refine wp_aload_n 0 dX9_state_10 rfl rfl ?_
    obtain ⟨i6, hb⟩ := hb
    refine wp_getR dX9_state_11 fl_X9_37 i1 (i6.ne (by decide)) ?_
    refine wp_iload_n 1 dX9_state_14 rfl rfl ?_
    obtain ⟨b7, hb⟩ := hb
    refine wp_laload dX9_state_15 i6 b7 ?_
    refine wp_topl (fun v8 e9 => ?_)
    have hb := hb v8 e9
    refine wp_lstore_n (lv2 := [(3, .long v8), (0, .ref x0), (1, .int x1), (2, .int x2)]) dX9_state_16 rfl (by decide) rfl ?_
    refine wp_iload_n 3 dX9_state_17 rfl rfl ?_
    refine wp_case 0 (fun c10 => ?_) (fun c10 => ?_)
    · have hb := hb.1 c10
      refine wp_tableIn (v := 0) (tgt := 52) dX9_state_18 c10 (by decide) (by decide) rfl (by decide) ?_
      refine wp_lload_n 0 dX9_state_52 rfl rfl ?_
      refine wp_callSN (as := [.long v8]) dX9_state_53 cb_X3_faultOf lk_X9_152 st_X3_faultOf rfl (Nat.le_of_ble_eq_true rfl) ⟨by decide, by decide⟩ ⟨Nat.le_refl _, Nat.le_refl _, Nat.le_refl _⟩ hb (fun r0 h12 hb => ?_)
      obtain ⟨r13, rfl, hb⟩ := hb
      exact wp_iret rfl dX9_state_56 ⟨_, rfl, hb⟩
    · have hb := hb.2 c10
      refine wp_case 1 (fun c14 => ?_) (fun c14 => ?_)
      · have hb := hb.1 c14
        refine wp_tableIn (v := 1) (tgt := 57) dX9_state_18 c14 (by decide) (by decide) rfl (by decide) ?_
        refine wp_lload_n 0 dX9_state_57 rfl rfl ?_
        refine wp_callSN (as := [.long v8]) dX9_state_58 cb_X3_openOf lk_X9_158 st_X3_openOf rfl (Nat.le_of_ble_eq_true rfl) ⟨by decide, by decide⟩ ⟨Nat.le_refl _, Nat.le_refl _, Nat.le_refl _⟩ hb (fun r0 h16 hb => ?_)
        obtain ⟨r17, rfl, hb⟩ := hb
        exact wp_iret rfl dX9_state_61 ⟨_, rfl, hb⟩
      · have hb := hb.2 c14
        refine wp_case 2 (fun c18 => ?_) (fun c18 => ?_)
        · have hb := hb.1 c18
          refine wp_tableIn (v := 2) (tgt := 62) dX9_state_18 c18 (by decide) (by decide) rfl (by decide) ?_
          refine wp_lload_n 0 dX9_state_62 rfl rfl ?_
          refine wp_callSN (as := [.long v8]) dX9_state_63 cb_X3_topOf lk_X9_161 st_X3_topOf rfl (Nat.le_of_ble_eq_true rfl) ⟨by decide, by decide⟩ ⟨Nat.le_refl _, Nat.le_refl _, Nat.le_refl _⟩ hb (fun r0 h20 hb => ?_)
          obtain ⟨r21, rfl, hb⟩ := hb
          exact wp_iret rfl dX9_state_66 ⟨_, rfl, hb⟩
        · have hb := hb.2 c18
          refine wp_case 3 (fun c22 => ?_) (fun c22 => ?_)
          · have hb := hb.1 c22
            refine wp_tableIn (v := 3) (tgt := 67) dX9_state_18 c22 (by decide) (by decide) rfl (by decide) ?_
            refine wp_lload_n 0 dX9_state_67 rfl rfl ?_
            refine wp_callSN (as := [.long v8]) dX9_state_68 cb_X3_ticksOf lk_X9_164 st_X3_ticksOf rfl (Nat.le_of_ble_eq_true rfl) ⟨by decide, by decide⟩ ⟨Nat.le_refl _, Nat.le_refl _, Nat.le_refl _⟩ hb (fun r0 h24 hb => ?_)
            obtain ⟨r25, rfl, hb⟩ := hb
            exact wp_iret rfl dX9_state_71 ⟨_, rfl, hb⟩
          · have hb := hb.2 c22
            refine wp_case 4 (fun c26 => ?_) (fun c26 => ?_)
            · have hb := hb.1 c26
              refine wp_tableIn (v := 4) (tgt := 72) dX9_state_18 c26 (by decide) (by decide) rfl (by decide) ?_
              refine wp_aload_n 1 dX9_state_72 rfl rfl ?_
              obtain ⟨i27, hb⟩ := hb
              refine wp_getR dX9_state_73 fl_X9_20 i1 (i27.ne (by decide)) ?_
              refine wp_iload_n 2 dX9_state_76 rfl rfl ?_
              obtain ⟨b28, hb⟩ := hb
              obtain ⟨i29, hb⟩ := hb
              refine wp_aaload24 dX9_state_77 i27 b28 (i29.ne (by decide)) ?_
              refine wp_lload_n 0 dX9_state_78 rfl rfl ?_
              refine wp_callVN (as := [.long v8]) dX9_state_79 cb_X0_possibleMany lk_X9_167 im_X0_possibleMany se_X0_possibleMany rfl (Nat.le_of_ble_eq_true rfl) ⟨by decide, by decide⟩ ⟨Nat.le_refl _, Nat.le_refl _, Nat.le_refl _⟩ i29 rfl (by decide) hb (fun r0 h31 hb => ?_)
              obtain ⟨r32, rfl, hb⟩ := hb
              exact wp_iret rfl dX9_state_82 ⟨_, rfl, hb⟩
            · have hb := hb.2 c26
              refine wp_tableOut (tgt := 83) dX9_state_18 (by have zc10 := lv_neT (k := 0) (a := 0) c10 rfl; have zc14 := lv_neT (k := 1) (a := 1) c14 rfl; have zc18 := lv_neT (k := 2) (a := 2) c18 rfl; have zc22 := lv_neT (k := 3) (a := 3) c22 rfl; have zc26 := lv_neT (k := 4) (a := 4) c26 rfl; omega) (by decide) ?_
              refine wp_iconst (v := (-1)) dX9_state_83 (by decide) ?_
              exact wp_iret rfl dX9_state_84 ⟨_, rfl, hb⟩
  · have hb := hb.2 c5
    refine wp_iconst (v := (-1)) dX9_state_8 (by decide) ?_
    exact wp_iret rfl dX9_state_9 ⟨_, rfl, hb⟩
theorem c_X9_state {l : Launch} {g : AG} {h : AH} {x0 : Nat} {x1 : Int32} {x2 : Int32}  {Q : Int32 → AH → Prop} (hb : L_X9_state_0 l g h x0 x1 x2  Q) : C_X9_state l g h x0 x1 x2  Q := ax_met rfl (Nat.le_of_ble_eq_true rfl) hb
