def C_X1_leadsToMarked (l : Launch) (g : AG) (h : AH) (x0 : Nat) (x1 : Int32)  (Q : Int32 → AH → Prop) : Prop := Ct l g mX1_leadsToMarked 0 0 194 194 h [.ref x0, .int x1] (ax_QI Q)
def L_X1_leadsToMarked_0 (l : Launch) (g : AG) (h : AH) (x0 : Nat) (x1 : Int32)  (Q : Int32 → AH → Prop) : Prop := Wp l g mX1_leadsToMarked 0 0 194 194 194 0 [(0, .ref x0), (1, .int x1)] [] h (FM g 194 194 (ax_QI Q))
def L_X1_leadsToMarked_2 (l : Launch) (g : AG) (h : AH) (x0 : Nat) (x1 : Int32) (x2 : Int32)  (Q : Int32 → AH → Prop) : Prop := Wp l g mX1_leadsToMarked 0 0 194 194 194 2 [(0, .ref x0), (1, .int x1), (2, .int x2)] [] h (FM g 194 194 (ax_QI Q))
set_option maxRecDepth 100000 in
set_option maxHeartbeats 4000000 in
theorem s_X1_leadsToMarked_0 {l : Launch} {g : AG} {h : AH} {x0 : Nat} {x1 : Int32}  {Q : Int32 → AH → Prop} (hb : L_X1_leadsToMarked_2 l g h x0 x1 0  Q) : L_X1_leadsToMarked_0 l g h x0 x1  Q := by
  refine wp_iconst (v := 0) dX1_leadsToMarked_0 (by decide) ?_
  refine wp_istore_n (lv2 := [(2, .int 0), (0, .ref x0), (1, .int x1)]) dX1_leadsToMarked_1 rfl (by decide) rfl ?_
  exact wp_sub [1, 2, 0] rfl hb
set_option maxRecDepth 100000 in
set_option maxHeartbeats 4000000 in
theorem s_X1_leadsToMarked_2 {l : Launch} {g : AG} {h : AH} {x0 : Nat} {x1 : Int32} {x2 : Int32}  {Q : Int32 → AH → Prop} (hb : ((26 ≤ x2 → (Q 0 h)) ∧ (¬ (26 ≤ x2) → ((Is 194 x0 1) ∧ ( (Is 194 (h.2.2 x0 3) 20) ∧ ( (vp_in ((x1 * 27) + x2) (ax_s (h.2.2 x0 3)).2) ∧ ( ∀ v5 : Int32, v5 = (h.1 (h.2.2 x0 3) ((x1 * 27) + x2).toNatClampNeg) → ( ((v5 < 0 → (∀ v8 : Int32, v8 = x2 + (1) → ( L_X1_leadsToMarked_2 l g h x0 x1 v8  Q))) ∧ (¬ (v5 < 0) → ((Is 194 (h.2.2 x0 8) 23) ∧ ( (vp_in v5 (ax_s (h.2.2 x0 8)).2) ∧ ( ((h.1 (h.2.2 x0 8) v5.toNatClampNeg = 0 → (∀ v13 : Int32, v13 = x2 + (1) → ( L_X1_leadsToMarked_2 l g h x0 x1 v13  Q))) ∧ (¬ (h.1 (h.2.2 x0 8) v5.toNatClampNeg = 0) → (Q 1 h)))))))))))))))) : L_X1_leadsToMarked_2 l g h x0 x1 x2  Q := by
  refine wp_iload_n 2 dX1_leadsToMarked_2 rfl rfl ?_
  refine wp_bipush (v := 26) dX1_leadsToMarked_3 (by decide) ?_
  refine wp_icmp_ge (tgt := 41) dX1_leadsToMarked_5 (by decide) (fun c1 => ?_) (fun c1 => ?_)
  · have hb := hb.1 c1
    refine wp_iconst (v := 0) dX1_leadsToMarked_41 (by decide) ?_
    exact wp_zret rfl dX1_leadsToMarked_42 (Or.inl rfl) ⟨_, rfl, hb⟩
  · have hb := hb.2 c1
    obtain ⟨i2, hb⟩ := hb
    refine wp_aload_n 0 dX1_leadsToMarked_8 rfl rfl ?_
    obtain ⟨i3, hb⟩ := hb
    refine wp_getR dX1_leadsToMarked_9 fl_X1_22 i2 (i3.ne (by decide)) ?_
    refine wp_iload_n 1 dX1_leadsToMarked_12 rfl rfl ?_
    refine wp_bipush (v := 27) dX1_leadsToMarked_13 (by decide) ?_
    refine wp_imul dX1_leadsToMarked_15 ?_
    refine wp_iload_n 2 dX1_leadsToMarked_16 rfl rfl ?_
    refine wp_iadd dX1_leadsToMarked_17 ?_
    obtain ⟨b4, hb⟩ := hb
    refine wp_iaload dX1_leadsToMarked_18 i3 b4 ?_
    refine wp_topi (fun v5 e6 => ?_)
    have hb := hb v5 e6
    refine wp_istore_n (lv2 := [(3, .int v5), (0, .ref x0), (1, .int x1), (2, .int x2)]) dX1_leadsToMarked_19 rfl (by decide) rfl ?_
    refine wp_iload_n 0 dX1_leadsToMarked_20 rfl rfl ?_
    refine wp_if_lt (tgt := 35) dX1_leadsToMarked_21 (by decide) (fun c7 => ?_) (fun c7 => ?_)
    · have hb := hb.1 c7
      obtain ⟨v8, e9⟩ : ∃ y : Int32, y = x2 + (1) := ⟨_, rfl⟩
      have hb := hb v8 e9
      refine wp_iinc (v := v8) (lv2 := [(2, .int v8), (3, .int v5), (0, .ref x0), (1, .int x1)]) 3 dX1_leadsToMarked_35 rfl (by rw [e9]; rfl) (by decide) rfl ?_
      refine wp_goto (tgt := 2) dX1_leadsToMarked_38 (by decide) ?_
      exact wp_sub [2, 3, 0] rfl hb
    · have hb := hb.2 c7
      refine wp_aload_n 1 dX1_leadsToMarked_24 rfl rfl ?_
      obtain ⟨i10, hb⟩ := hb
      refine wp_getR dX1_leadsToMarked_25 fl_X1_38 i2 (i10.ne (by decide)) ?_
      refine wp_iload_n 0 dX1_leadsToMarked_28 rfl rfl ?_
      obtain ⟨b11, hb⟩ := hb
      refine wp_zaload dX1_leadsToMarked_29 i10 b11 ?_
      refine wp_if_eq (tgt := 35) dX1_leadsToMarked_30 (by decide) (fun c12 => ?_) (fun c12 => ?_)
      · have hb := hb.1 c12
        obtain ⟨v13, e14⟩ : ∃ y : Int32, y = x2 + (1) := ⟨_, rfl⟩
        have hb := hb v13 e14
        refine wp_iinc (v := v13) (lv2 := [(2, .int v13), (3, .int v5), (0, .ref x0), (1, .int x1)]) 3 dX1_leadsToMarked_35 rfl (by rw [e14]; rfl) (by decide) rfl ?_
        refine wp_goto (tgt := 2) dX1_leadsToMarked_38 (by decide) ?_
        exact wp_sub [2, 3, 0] rfl hb
      · have hb := hb.2 c12
        refine wp_iconst (v := 1) dX1_leadsToMarked_33 (by decide) ?_
        exact wp_zret rfl dX1_leadsToMarked_34 (Or.inr rfl) ⟨_, rfl, hb⟩
theorem c_X1_leadsToMarked {l : Launch} {g : AG} {h : AH} {x0 : Nat} {x1 : Int32}  {Q : Int32 → AH → Prop} (hb : L_X1_leadsToMarked_0 l g h x0 x1  Q) : C_X1_leadsToMarked l g h x0 x1  Q := ax_met rfl rfl (Nat.le_of_ble_eq_true rfl) hb
def C_X1_markMore (l : Launch) (g : AG) (h : AH) (x0 : Nat)  (Q : Int32 → AH → Prop) : Prop := Ct l g mX1_markMore 1 23 194 194 h [.ref x0] (ax_QI Q)
def L_X1_markMore_0 (l : Launch) (g : AG) (h : AH) (x0 : Nat)  (Q : Int32 → AH → Prop) : Prop := Wp l g mX1_markMore 1 23 194 194 194 0 [(0, .ref x0)] [] h (FM g 194 194 (ax_QI Q))
def L_X1_markMore_12 (l : Launch) (g : AG) (h : AH) (x0 : Nat) (x1 : Int32) (x2 : Int32)  (Q : Int32 → AH → Prop) : Prop := Wp l g mX1_markMore 1 23 194 194 194 12 [(0, .ref x0), (1, .int x1), (2, .int x2)] [] h (FM g 194 194 (ax_QI Q))
set_option maxRecDepth 100000 in
set_option maxHeartbeats 4000000 in
theorem s_X1_markMore_0 {l : Launch} {g : AG} {h : AH} {x0 : Nat}  {Q : Int32 → AH → Prop} (hb : (Is 194 x0 1) ∧ ( (Is 194 (h.2.2 x0 2) 5) ∧ ( ∀ v3 : Int32, v3 = ((h.1 (h.2.2 x0 2) 0) - 1) → ( L_X1_markMore_12 l g h x0 0 v3  Q)))) : L_X1_markMore_0 l g h x0  Q := by
  refine wp_iconst (v := 0) dX1_markMore_0 (by decide) ?_
  refine wp_istore_n (lv2 := [(1, .int 0), (0, .ref x0)]) dX1_markMore_1 rfl (by decide) rfl ?_
  obtain ⟨i1, hb⟩ := hb
  refine wp_aload_n 1 dX1_markMore_2 rfl rfl ?_
  obtain ⟨i2, hb⟩ := hb
  refine wp_getR dX1_markMore_3 fl_X1_18 i1 (i2.ne (by decide)) ?_
  refine wp_getI dX1_markMore_6 fl_X1_50 i2 ?_
  refine wp_iconst (v := 1) dX1_markMore_9 (by decide) ?_
  refine wp_isub dX1_markMore_10 ?_
  refine wp_topi (fun v3 e4 => ?_)
  have hb := hb v3 e4
  refine wp_istore_n (lv2 := [(2, .int v3), (1, .int 0), (0, .ref x0)]) dX1_markMore_11 rfl (by decide) rfl ?_
  exact wp_sub [2, 1, 0] rfl hb
set_option maxRecDepth 100000 in
set_option maxHeartbeats 4000000 in
theorem s_X1_markMore_12 {l : Launch} {g : AG} {h : AH} {x0 : Nat} {x1 : Int32} {x2 : Int32}  {Q : Int32 → AH → Prop} (hb : ((x2 < 0 → ((x1 = 0 ∨ x1 = 1) ∧ ( Q x1 h))) ∧ (¬ (x2 < 0) → ((Is 194 x0 1) ∧ ( (Is 194 (h.2.2 x0 8) 23) ∧ ( (vp_in x2 (ax_s (h.2.2 x0 8)).2) ∧ ( ((¬ h.1 (h.2.2 x0 8) x2.toNatClampNeg = 0 → (∀ v11 : Int32, v11 = x2 + (-1) → ( L_X1_markMore_12 l g h x0 x1 v11  Q))) ∧ (h.1 (h.2.2 x0 8) x2.toNatClampNeg = 0 → (C_X1_leadsToMarked l g h x0 x2 (fun r15 h14 => ( ((r15 = 0 → (∀ v17 : Int32, v17 = x2 + (-1) → ( L_X1_markMore_12 l g h14 x0 x1 v17  Q))) ∧ (¬ (r15 = 0) → ((Is 194 (h14.2.2 x0 8) 23) ∧ ( (vp_in x2 (ax_s (h14.2.2 x0 8)).2) ∧ ( ∀ h21 : AH, h21 = ax_setI h14 (h14.2.2 x0 8) x2.toNatClampNeg (vp_nar .boolean 1) → ( ∀ v23 : Int32, v23 = x2 + (-1) → ( L_X1_markMore_12 l g h21 x0 1 v23  Q))))))))))))))))))) : L_X1_markMore_12 l g h x0 x1 x2  Q := by
  refine wp_iload_n 2 dX1_markMore_12 rfl rfl ?_
  refine wp_if_lt (tgt := 48) dX1_markMore_13 (by decide) (fun c5 => ?_) (fun c5 => ?_)
  · have hb := hb.1 c5
    refine wp_iload_n 1 dX1_markMore_48 rfl rfl ?_
    obtain ⟨q6, hb⟩ := hb
    exact wp_zret rfl dX1_markMore_49 q6 ⟨_, rfl, hb⟩
  · have hb := hb.2 c5
    obtain ⟨i7, hb⟩ := hb
    refine wp_aload_n 0 dX1_markMore_16 rfl rfl ?_
    obtain ⟨i8, hb⟩ := hb
    refine wp_getR dX1_markMore_17 fl_X1_38 i7 (i8.ne (by decide)) ?_
    refine wp_iload_n 2 dX1_markMore_20 rfl rfl ?_
    obtain ⟨b9, hb⟩ := hb
    refine wp_zaload dX1_markMore_21 i8 b9 ?_
    refine wp_if_ne (tgt := 42) dX1_markMore_22 (by decide) (fun c10 => ?_) (fun c10 => ?_)
    · have hb := hb.1 c10
      obtain ⟨v11, e12⟩ : ∃ y : Int32, y = x2 + (-1) := ⟨_, rfl⟩
      have hb := hb v11 e12
      refine wp_iinc (v := v11) (lv2 := [(2, .int v11), (0, .ref x0), (1, .int x1)]) 2 dX1_markMore_42 rfl (by rw [e12]; rfl) (by decide) rfl ?_
      refine wp_goto (tgt := 12) dX1_markMore_45 (by decide) ?_
      exact wp_sub [1, 2, 0] rfl hb
    · have hb := hb.2 c10
      refine wp_aload_n 0 dX1_markMore_25 rfl rfl ?_
      refine wp_iload_n 2 dX1_markMore_26 rfl rfl ?_
      refine wp_callV (as := [.int x2]) dX1_markMore_27 cb_X1_leadsToMarked lk_X1_120 im_X1_leadsToMarked se_X1_leadsToMarked rfl (Nat.le_of_ble_eq_true rfl) ⟨by decide, by decide⟩ ⟨Nat.le_refl _, Nat.le_refl _, Nat.le_refl _⟩ i7 rfl (by decide) hb (fun r0 h14 hb => ?_)
      obtain ⟨r15, rfl, hb⟩ := hb
      refine wp_if_eq (tgt := 42) dX1_markMore_30 (by decide) (fun c16 => ?_) (fun c16 => ?_)
      · have hb := hb.1 c16
        obtain ⟨v17, e18⟩ : ∃ y : Int32, y = x2 + (-1) := ⟨_, rfl⟩
        have hb := hb v17 e18
        refine wp_iinc (v := v17) (lv2 := [(2, .int v17), (0, .ref x0), (1, .int x1)]) 2 dX1_markMore_42 rfl (by rw [e18]; rfl) (by decide) rfl ?_
        refine wp_goto (tgt := 12) dX1_markMore_45 (by decide) ?_
        exact wp_sub [1, 2, 0] rfl hb
      · have hb := hb.2 c16
        refine wp_aload_n 0 dX1_markMore_33 rfl rfl ?_
        obtain ⟨i19, hb⟩ := hb
        refine wp_getR dX1_markMore_34 fl_X1_38 i7 (i19.ne (by decide)) ?_
        refine wp_iload_n 2 dX1_markMore_37 rfl rfl ?_
        refine wp_iconst (v := 1) dX1_markMore_38 (by decide) ?_
        obtain ⟨b20, hb⟩ := hb
        refine wp_zastore dX1_markMore_39 i19 b20 ?_
        refine wp_topH (fun h21 e22 => ?_)
        have hb := hb h21 e22
        refine wp_iconst (v := 1) dX1_markMore_40 (by decide) ?_
        refine wp_istore_n (lv2 := [(1, .int 1), (0, .ref x0), (2, .int x2)]) dX1_markMore_41 rfl (by decide) rfl ?_
        obtain ⟨v23, e24⟩ : ∃ y : Int32, y = x2 + (-1) := ⟨_, rfl⟩
        have hb := hb v23 e24
        refine wp_iinc (v := v23) (lv2 := [(2, .int v23), (1, .int 1), (0, .ref x0)]) 2 dX1_markMore_42 rfl (by rw [e24]; rfl) (by decide) rfl ?_
        refine wp_goto (tgt := 12) dX1_markMore_45 (by decide) ?_
        exact wp_sub [2, 1, 0] rfl hb
theorem c_X1_markMore {l : Launch} {g : AG} {h : AH} {x0 : Nat}  {Q : Int32 → AH → Prop} (hb : L_X1_markMore_0 l g h x0  Q) : C_X1_markMore l g h x0  Q := ax_met rfl rfl (Nat.le_of_ble_eq_true rfl) hb
def C_X1_firstWithoutWayTo (l : Launch) (g : AG) (h : AH) (x0 : Nat) (x1 : Int32)  (Q : Int32 → AH → Prop) : Prop := Ct l g mX1_firstWithoutWayTo 2 45 194 194 h [.ref x0, .int x1] (ax_QI Q)
def L_X1_firstWithoutWayTo_0 (l : Launch) (g : AG) (h : AH) (x0 : Nat) (x1 : Int32)  (Q : Int32 → AH → Prop) : Prop := Wp l g mX1_firstWithoutWayTo 2 45 194 194 194 0 [(0, .ref x0), (1, .int x1)] [] h (FM g 194 194 (ax_QI Q))
def L_X1_firstWithoutWayTo_2 (l : Launch) (g : AG) (h : AH) (x0 : Nat) (x1 : Int32) (x2 : Int32)  (Q : Int32 → AH → Prop) : Prop := Wp l g mX1_firstWithoutWayTo 2 45 194 194 194 2 [(0, .ref x0), (1, .int x1), (2, .int x2)] [] h (FM g 194 194 (ax_QI Q))
def L_X1_firstWithoutWayTo_50 (l : Launch) (g : AG) (h : AH) (x0 : Nat) (x2 : Int32) (x3 : Int32)  (Q : Int32 → AH → Prop) : Prop := Wp l g mX1_firstWithoutWayTo 2 45 194 194 194 50 [(0, .ref x0), (2, .int x2), (3, .int x3)] [] h (FM g 194 194 (ax_QI Q))
def L_X1_firstWithoutWayTo_74 (l : Launch) (g : AG) (h : AH) (x0 : Nat) (x3 : Int32)  (Q : Int32 → AH → Prop) : Prop := Wp l g mX1_firstWithoutWayTo 2 45 194 194 194 74 [(0, .ref x0), (3, .int x3)] [] h (FM g 194 194 (ax_QI Q))
set_option maxRecDepth 100000 in
set_option maxHeartbeats 4000000 in
theorem s_X1_firstWithoutWayTo_0 {l : Launch} {g : AG} {h : AH} {x0 : Nat} {x1 : Int32}  {Q : Int32 → AH → Prop} (hb : L_X1_firstWithoutWayTo_2 l g h x0 x1 0  Q) : L_X1_firstWithoutWayTo_0 l g h x0 x1  Q := by
  refine wp_iconst (v := 0) dX1_firstWithoutWayTo_0 (by decide) ?_
  refine wp_istore_n (lv2 := [(2, .int 0), (0, .ref x0), (1, .int x1)]) dX1_firstWithoutWayTo_1 rfl (by decide) rfl ?_
  exact wp_sub [1, 2, 0] rfl hb
set_option maxRecDepth 100000 in
set_option maxHeartbeats 4000000 in
theorem s_X1_firstWithoutWayTo_2 {l : Launch} {g : AG} {h : AH} {x0 : Nat} {x1 : Int32} {x2 : Int32}  {Q : Int32 → AH → Prop} (hb : (Is 194 x0 1) ∧ ( (Is 194 (h.2.2 x0 2) 5) ∧ ( ((h.1 (h.2.2 x0 2) 0 ≤ x2 → (L_X1_firstWithoutWayTo_50 l g h x0 1 0  Q)) ∧ (¬ (h.1 (h.2.2 x0 2) 0 ≤ x2) → ((Is 194 (h.2.2 x0 8) 23) ∧ ( (Is 194 (h.2.2 x0 2) 5) ∧ ( (Is 194 (h.2.2 (h.2.2 x0 2) 1) 21) ∧ ( (vp_in x2 (ax_s (h.2.2 (h.2.2 x0 2) 1)).2) ∧ ( C_X3_topOf l g h (h.2.1 (h.2.2 (h.2.2 x0 2) 1) x2.toNatClampNeg) (fun r10 h9 => ( ((¬ r10 = x1 → ((vp_in x2 (ax_s (h.2.2 x0 8)).2) ∧ ( ∀ h13 : AH, h13 = ax_setI h9 (h.2.2 x0 8) x2.toNatClampNeg (vp_nar .boolean 0) → ( ∀ v15 : Int32, v15 = x2 + (1) → ( L_X1_firstWithoutWayTo_2 l g h13 x0 x1 v15  Q))))) ∧ (r10 = x1 → ((vp_in x2 (ax_s (h.2.2 x0 8)).2) ∧ ( ∀ h18 : AH, h18 = ax_setI h9 (h.2.2 x0 8) x2.toNatClampNeg (vp_nar .boolean 1) → ( ∀ v20 : Int32, v20 = x2 + (1) → ( L_X1_firstWithoutWayTo_2 l g h18 x0 x1 v20  Q)))))))))))))))))) : L_X1_firstWithoutWayTo_2 l g h x0 x1 x2  Q := by
  refine wp_iload_n 2 dX1_firstWithoutWayTo_2 rfl rfl ?_
  obtain ⟨i1, hb⟩ := hb
  refine wp_aload_n 0 dX1_firstWithoutWayTo_3 rfl rfl ?_
  obtain ⟨i2, hb⟩ := hb
  refine wp_getR dX1_firstWithoutWayTo_4 fl_X1_18 i1 (i2.ne (by decide)) ?_
  refine wp_getI dX1_firstWithoutWayTo_7 fl_X1_50 i2 ?_
  refine wp_icmp_ge (tgt := 46) dX1_firstWithoutWayTo_10 (by decide) (fun c3 => ?_) (fun c3 => ?_)
  · have hb := hb.1 c3
    refine wp_iconst (v := 1) dX1_firstWithoutWayTo_46 (by decide) ?_
    refine wp_istore_n (lv2 := [(2, .int 1), (0, .ref x0), (1, .int x1)]) dX1_firstWithoutWayTo_47 rfl (by decide) rfl ?_
    refine wp_iconst (v := 0) dX1_firstWithoutWayTo_48 (by decide) ?_
    refine wp_istore_n (lv2 := [(3, .int 0), (2, .int 1), (0, .ref x0), (1, .int x1)]) dX1_firstWithoutWayTo_49 rfl (by decide) rfl ?_
    exact wp_sub [2, 1, 0] rfl hb
  · have hb := hb.2 c3
    refine wp_aload_n 0 dX1_firstWithoutWayTo_13 rfl rfl ?_
    obtain ⟨i4, hb⟩ := hb
    refine wp_getR dX1_firstWithoutWayTo_14 fl_X1_38 i1 (i4.ne (by decide)) ?_
    refine wp_iload_n 2 dX1_firstWithoutWayTo_17 rfl rfl ?_
    refine wp_aload_n 0 dX1_firstWithoutWayTo_18 rfl rfl ?_
    obtain ⟨i5, hb⟩ := hb
    refine wp_getR dX1_firstWithoutWayTo_19 fl_X1_18 i1 (i5.ne (by decide)) ?_
    obtain ⟨i6, hb⟩ := hb
    refine wp_getR dX1_firstWithoutWayTo_22 fl_X1_73 i5 (i6.ne (by decide)) ?_
    refine wp_iload_n 2 dX1_firstWithoutWayTo_25 rfl rfl ?_
    obtain ⟨b7, hb⟩ := hb
    refine wp_laload dX1_firstWithoutWayTo_26 i6 b7 ?_
    refine wp_callSN (as := [.long (h.2.1 (h.2.2 (h.2.2 x0 2) 1) x2.toNatClampNeg)]) dX1_firstWithoutWayTo_27 cb_X3_topOf lk_X1_114 st_X3_topOf rfl (Nat.le_of_ble_eq_true rfl) ⟨by decide, by decide⟩ ⟨Nat.le_refl _, Nat.le_refl _, Nat.le_refl _⟩ hb (fun r0 h9 hb => ?_)
    obtain ⟨r10, rfl, hb⟩ := hb
    refine wp_iload_n 1 dX1_firstWithoutWayTo_30 rfl rfl ?_
    refine wp_icmp_ne (tgt := 38) dX1_firstWithoutWayTo_31 (by decide) (fun c11 => ?_) (fun c11 => ?_)
    · have hb := hb.1 c11
      refine wp_iconst (v := 0) dX1_firstWithoutWayTo_38 (by decide) ?_
      obtain ⟨b12, hb⟩ := hb
      refine wp_zastore dX1_firstWithoutWayTo_39 i4 b12 ?_
      refine wp_topH (fun h13 e14 => ?_)
      have hb := hb h13 e14
      obtain ⟨v15, e16⟩ : ∃ y : Int32, y = x2 + (1) := ⟨_, rfl⟩
      have hb := hb v15 e16
      refine wp_iinc (v := v15) (lv2 := [(2, .int v15), (0, .ref x0), (1, .int x1)]) 2 dX1_firstWithoutWayTo_40 rfl (by rw [e16]; rfl) (by decide) rfl ?_
      refine wp_goto (tgt := 2) dX1_firstWithoutWayTo_43 (by decide) ?_
      exact wp_sub [1, 2, 0] rfl hb
    · have hb := hb.2 c11
      refine wp_iconst (v := 1) dX1_firstWithoutWayTo_34 (by decide) ?_
      refine wp_goto (tgt := 39) dX1_firstWithoutWayTo_35 (by decide) ?_
      obtain ⟨b17, hb⟩ := hb
      refine wp_zastore dX1_firstWithoutWayTo_39 i4 b17 ?_
      refine wp_topH (fun h18 e19 => ?_)
      have hb := hb h18 e19
      obtain ⟨v20, e21⟩ : ∃ y : Int32, y = x2 + (1) := ⟨_, rfl⟩
      have hb := hb v20 e21
      refine wp_iinc (v := v20) (lv2 := [(2, .int v20), (0, .ref x0), (1, .int x1)]) 2 dX1_firstWithoutWayTo_40 rfl (by rw [e21]; rfl) (by decide) rfl ?_
      refine wp_goto (tgt := 2) dX1_firstWithoutWayTo_43 (by decide) ?_
      exact wp_sub [1, 2, 0] rfl hb
set_option maxRecDepth 100000 in
set_option maxHeartbeats 4000000 in
theorem s_X1_firstWithoutWayTo_50 {l : Launch} {g : AG} {h : AH} {x0 : Nat} {x2 : Int32} {x3 : Int32}  {Q : Int32 → AH → Prop} (hb : ((x2 = 0 → (L_X1_firstWithoutWayTo_74 l g h x0 0  Q)) ∧ (¬ (x2 = 0) → (((400 < x3 → (L_X1_firstWithoutWayTo_74 l g h x0 0  Q)) ∧ (¬ (400 < x3) → ((Is 194 x0 1) ∧ ( C_X1_markMore l g h x0 (fun r27 h26 => ( ∀ v28 : Int32, v28 = x3 + (1) → ( L_X1_firstWithoutWayTo_50 l g h26 x0 r27 v28  Q))))))))))) : L_X1_firstWithoutWayTo_50 l g h x0 x2 x3  Q := by
  refine wp_iload_n 1 dX1_firstWithoutWayTo_50 rfl rfl ?_
  refine wp_if_eq (tgt := 72) dX1_firstWithoutWayTo_51 (by decide) (fun c22 => ?_) (fun c22 => ?_)
  · have hb := hb.1 c22
    refine wp_iconst (v := 0) dX1_firstWithoutWayTo_72 (by decide) ?_
    refine wp_istore_n (lv2 := [(3, .int 0), (0, .ref x0), (2, .int x2)]) dX1_firstWithoutWayTo_73 rfl (by decide) rfl ?_
    exact wp_sub [1, 0] rfl hb
  · have hb := hb.2 c22
    refine wp_iload_n 2 dX1_firstWithoutWayTo_54 rfl rfl ?_
    refine wp_sipush (v := 400) dX1_firstWithoutWayTo_55 (by decide) ?_
    refine wp_icmp_gt (tgt := 72) dX1_firstWithoutWayTo_58 (by decide) (fun c23 => ?_) (fun c23 => ?_)
    · have hb := hb.1 c23
      refine wp_iconst (v := 0) dX1_firstWithoutWayTo_72 (by decide) ?_
      refine wp_istore_n (lv2 := [(3, .int 0), (0, .ref x0), (2, .int x2)]) dX1_firstWithoutWayTo_73 rfl (by decide) rfl ?_
      exact wp_sub [1, 0] rfl hb
    · have hb := hb.2 c23
      obtain ⟨i24, hb⟩ := hb
      refine wp_aload_n 0 dX1_firstWithoutWayTo_61 rfl rfl ?_
      refine wp_callV (as := []) dX1_firstWithoutWayTo_62 cb_X1_markMore lk_X1_117 im_X1_markMore se_X1_markMore rfl (Nat.le_of_ble_eq_true rfl) ⟨by decide, by decide⟩ ⟨Nat.le_refl _, Nat.le_refl _, Nat.le_refl _⟩ i24 rfl (by decide) hb (fun r0 h26 hb => ?_)
      obtain ⟨r27, rfl, hb⟩ := hb
      refine wp_istore_n (lv2 := [(2, .int r27), (0, .ref x0), (3, .int x3)]) dX1_firstWithoutWayTo_65 rfl (by decide) rfl ?_
      obtain ⟨v28, e29⟩ : ∃ y : Int32, y = x3 + (1) := ⟨_, rfl⟩
      have hb := hb v28 e29
      refine wp_iinc (v := v28) (lv2 := [(3, .int v28), (2, .int r27), (0, .ref x0)]) 2 dX1_firstWithoutWayTo_66 rfl (by rw [e29]; rfl) (by decide) rfl ?_
      refine wp_goto (tgt := 50) dX1_firstWithoutWayTo_69 (by decide) ?_
      exact wp_sub [2, 1, 0] rfl hb
set_option maxRecDepth 100000 in
set_option maxHeartbeats 4000000 in
theorem s_X1_firstWithoutWayTo_74 {l : Launch} {g : AG} {h : AH} {x0 : Nat} {x3 : Int32}  {Q : Int32 → AH → Prop} (hb : (Is 194 x0 1) ∧ ( (Is 194 (h.2.2 x0 2) 5) ∧ ( ((h.1 (h.2.2 x0 2) 0 ≤ x3 → (Q (-2) h)) ∧ (¬ (h.1 (h.2.2 x0 2) 0 ≤ x3) → ((Is 194 (h.2.2 x0 8) 23) ∧ ( (vp_in x3 (ax_s (h.2.2 x0 8)).2) ∧ ( ((¬ h.1 (h.2.2 x0 8) x3.toNatClampNeg = 0 → (∀ v36 : Int32, v36 = x3 + (1) → ( L_X1_firstWithoutWayTo_74 l g h x0 v36  Q))) ∧ (h.1 (h.2.2 x0 8) x3.toNatClampNeg = 0 → (Q x3 h))))))))))) : L_X1_firstWithoutWayTo_74 l g h x0 x3  Q := by
  refine wp_iload_n 1 dX1_firstWithoutWayTo_74 rfl rfl ?_
  obtain ⟨i30, hb⟩ := hb
  refine wp_aload_n 0 dX1_firstWithoutWayTo_75 rfl rfl ?_
  obtain ⟨i31, hb⟩ := hb
  refine wp_getR dX1_firstWithoutWayTo_76 fl_X1_18 i30 (i31.ne (by decide)) ?_
  refine wp_getI dX1_firstWithoutWayTo_79 fl_X1_50 i31 ?_
  refine wp_icmp_ge (tgt := 102) dX1_firstWithoutWayTo_82 (by decide) (fun c32 => ?_) (fun c32 => ?_)
  · have hb := hb.1 c32
    refine wp_bipush (v := (-2)) dX1_firstWithoutWayTo_102 (by decide) ?_
    exact wp_iret rfl dX1_firstWithoutWayTo_104 ⟨_, rfl, hb⟩
  · have hb := hb.2 c32
    refine wp_aload_n 0 dX1_firstWithoutWayTo_85 rfl rfl ?_
    obtain ⟨i33, hb⟩ := hb
    refine wp_getR dX1_firstWithoutWayTo_86 fl_X1_38 i30 (i33.ne (by decide)) ?_
    refine wp_iload_n 1 dX1_firstWithoutWayTo_89 rfl rfl ?_
    obtain ⟨b34, hb⟩ := hb
    refine wp_zaload dX1_firstWithoutWayTo_90 i33 b34 ?_
    refine wp_if_ne (tgt := 96) dX1_firstWithoutWayTo_91 (by decide) (fun c35 => ?_) (fun c35 => ?_)
    · have hb := hb.1 c35
      obtain ⟨v36, e37⟩ : ∃ y : Int32, y = x3 + (1) := ⟨_, rfl⟩
      have hb := hb v36 e37
      refine wp_iinc (v := v36) (lv2 := [(3, .int v36), (0, .ref x0)]) 1 dX1_firstWithoutWayTo_96 rfl (by rw [e37]; rfl) (by decide) rfl ?_
      refine wp_goto (tgt := 74) dX1_firstWithoutWayTo_99 (by decide) ?_
      exact wp_sub [1, 0] rfl hb
    · have hb := hb.2 c35
      refine wp_iload_n 1 dX1_firstWithoutWayTo_94 rfl rfl ?_
      exact wp_iret rfl dX1_firstWithoutWayTo_95 ⟨_, rfl, hb⟩
theorem c_X1_firstWithoutWayTo {l : Launch} {g : AG} {h : AH} {x0 : Nat} {x1 : Int32}  {Q : Int32 → AH → Prop} (hb : L_X1_firstWithoutWayTo_0 l g h x0 x1  Q) : C_X1_firstWithoutWayTo l g h x0 x1  Q := ax_met rfl rfl (Nat.le_of_ble_eq_true rfl) hb
def C_X9_stuck (l : Launch) (g : AG) (h : AH) (x0 : Nat) (x1 : Int32)  (Q : Int32 → AH → Prop) : Prop := Ct l g mX9_stuck 3 68 194 194 h [.ref x0, .int x1] (ax_QI Q)
def L_X9_stuck_0 (l : Launch) (g : AG) (h : AH) (x0 : Nat) (x1 : Int32)  (Q : Int32 → AH → Prop) : Prop := Wp l g mX9_stuck 3 68 194 194 194 0 [(0, .ref x0), (1, .int x1)] [] h (FM g 194 194 (ax_QI Q))
set_option maxRecDepth 100000 in
set_option maxHeartbeats 4000000 in
theorem s_X9_stuck_0 {l : Launch} {g : AG} {h : AH} {x0 : Nat} {x1 : Int32}  {Q : Int32 → AH → Prop} (hb : (Is 194 x0 8) ∧ ( (Is 194 (h.2.2 x0 6) 1) ∧ ( C_X1_stands l g h (h.2.2 x0 6) (fun r5 h4 => ( ((¬ r5 = 0 → (((x1 < 0 → (C_X9_refused l g h4 x0 1 (fun r10 h9 => ( Q r10 h9)))) ∧ (¬ (x1 < 0) → ((Is 194 (h4.2.2 x0 6) 1) ∧ ( (Is 194 (h4.2.2 (h4.2.2 x0 6) 1) 0) ∧ ( ((x1 < h4.1 (h4.2.2 (h4.2.2 x0 6) 1) 0 → ((Is 194 (h4.2.2 x0 6) 1) ∧ ( C_X1_firstWithoutWayTo l g h4 (h4.2.2 x0 6) x1 (fun r17 h16 => ( C_X9_granted l g h16 x0 r17 (fun r20 h19 => ( Q r20 h19))))))) ∧ (¬ (x1 < h4.1 (h4.2.2 (h4.2.2 x0 6) 1) 0) → (C_X9_refused l g h4 x0 1 (fun r23 h22 => ( Q r23 h22)))))))))))) ∧ (r5 = 0 → (C_X9_refused l g h4 x0 6 (fun r26 h25 => ( Q r26 h25)))))))))) : L_X9_stuck_0 l g h x0 x1  Q := by
  obtain ⟨i1, hb⟩ := hb
  refine wp_aload_n 0 dX9_stuck_0 rfl rfl ?_
  obtain ⟨i2, hb⟩ := hb
  refine wp_getR dX9_stuck_1 fl_X9_44 i1 (i2.ne (by decide)) ?_
  refine wp_callVN (as := []) dX9_stuck_4 cb_X1_stands lk_X9_202 im_X1_stands se_X1_stands rfl (Nat.le_of_ble_eq_true rfl) ⟨by decide, by decide⟩ ⟨Nat.le_refl _, Nat.le_refl _, Nat.le_refl _⟩ i2 rfl (by decide) hb (fun r0 h4 hb => ?_)
  obtain ⟨r5, rfl, hb⟩ := hb
  refine wp_if_ne (tgt := 17) dX9_stuck_7 (by decide) (fun c6 => ?_) (fun c6 => ?_)
  · have hb := hb.1 c6
    refine wp_iload_n 1 dX9_stuck_17 rfl rfl ?_
    refine wp_if_lt (tgt := 35) dX9_stuck_18 (by decide) (fun c7 => ?_) (fun c7 => ?_)
    · have hb := hb.1 c7
      refine wp_aload_n 0 dX9_stuck_35 rfl rfl ?_
      refine wp_iconst (v := 1) dX9_stuck_36 (by decide) ?_
      refine wp_callV (as := [.int 1]) dX9_stuck_37 cb_X9_refused lk_X9_76 im_X9_refused se_X9_refused rfl (Nat.le_of_ble_eq_true rfl) ⟨by decide, by decide⟩ ⟨Nat.le_refl _, Nat.le_refl _, Nat.le_refl _⟩ i1 rfl (by decide) hb (fun r0 h9 hb => ?_)
      obtain ⟨r10, rfl, hb⟩ := hb
      exact wp_iret rfl dX9_stuck_40 ⟨_, rfl, hb⟩
    · have hb := hb.2 c7
      refine wp_iload_n 1 dX9_stuck_21 rfl rfl ?_
      refine wp_aload_n 0 dX9_stuck_22 rfl rfl ?_
      obtain ⟨i11, hb⟩ := hb
      refine wp_getR dX9_stuck_23 fl_X9_44 i1 (i11.ne (by decide)) ?_
      obtain ⟨i12, hb⟩ := hb
      refine wp_getR dX9_stuck_26 fl_X9_213 i11 (i12.ne (by decide)) ?_
      refine wp_getI dX9_stuck_29 fl_X9_94 i12 ?_
      refine wp_icmp_lt (tgt := 41) dX9_stuck_32 (by decide) (fun c13 => ?_) (fun c13 => ?_)
      · have hb := hb.1 c13
        refine wp_aload_n 0 dX9_stuck_41 rfl rfl ?_
        refine wp_aload_n 0 dX9_stuck_42 rfl rfl ?_
        obtain ⟨i14, hb⟩ := hb
        refine wp_getR dX9_stuck_43 fl_X9_44 i1 (i14.ne (by decide)) ?_
        refine wp_iload_n 1 dX9_stuck_46 rfl rfl ?_
        refine wp_callVN (as := [.int x1]) dX9_stuck_47 cb_X1_firstWithoutWayTo lk_X9_226 im_X1_firstWithoutWayTo se_X1_firstWithoutWayTo rfl (Nat.le_of_ble_eq_true rfl) ⟨by decide, by decide⟩ ⟨Nat.le_refl _, Nat.le_refl _, Nat.le_refl _⟩ i14 rfl (by decide) hb (fun r0 h16 hb => ?_)
        obtain ⟨r17, rfl, hb⟩ := hb
        refine wp_callV (as := [.int r17]) dX9_stuck_50 cb_X9_granted lk_X9_97 im_X9_granted se_X9_granted rfl (Nat.le_of_ble_eq_true rfl) ⟨by decide, by decide⟩ ⟨Nat.le_refl _, Nat.le_refl _, Nat.le_refl _⟩ i1 rfl (by decide) hb (fun r0 h19 hb => ?_)
        obtain ⟨r20, rfl, hb⟩ := hb
        exact wp_iret rfl dX9_stuck_53 ⟨_, rfl, hb⟩
      · have hb := hb.2 c13
        refine wp_aload_n 0 dX9_stuck_35 rfl rfl ?_
        refine wp_iconst (v := 1) dX9_stuck_36 (by decide) ?_
        refine wp_callV (as := [.int 1]) dX9_stuck_37 cb_X9_refused lk_X9_76 im_X9_refused se_X9_refused rfl (Nat.le_of_ble_eq_true rfl) ⟨by decide, by decide⟩ ⟨Nat.le_refl _, Nat.le_refl _, Nat.le_refl _⟩ i1 rfl (by decide) hb (fun r0 h22 hb => ?_)
        obtain ⟨r23, rfl, hb⟩ := hb
        exact wp_iret rfl dX9_stuck_40 ⟨_, rfl, hb⟩
  · have hb := hb.2 c6
    refine wp_aload_n 0 dX9_stuck_10 rfl rfl ?_
    refine wp_bipush (v := 6) dX9_stuck_11 (by decide) ?_
    refine wp_callV (as := [.int 6]) dX9_stuck_13 cb_X9_refused lk_X9_76 im_X9_refused se_X9_refused rfl (Nat.le_of_ble_eq_true rfl) ⟨by decide, by decide⟩ ⟨Nat.le_refl _, Nat.le_refl _, Nat.le_refl _⟩ i1 rfl (by decide) hb (fun r0 h25 hb => ?_)
    obtain ⟨r26, rfl, hb⟩ := hb
    exact wp_iret rfl dX9_stuck_16 ⟨_, rfl, hb⟩
theorem c_X9_stuck {l : Launch} {g : AG} {h : AH} {x0 : Nat} {x1 : Int32}  {Q : Int32 → AH → Prop} (hb : L_X9_stuck_0 l g h x0 x1  Q) : C_X9_stuck l g h x0 x1  Q := ax_met rfl rfl (Nat.le_of_ble_eq_true rfl) hb
def C_X9_least (l : Launch) (g : AG) (h : AH) (x0 : Nat)  (Q : Int32 → AH → Prop) : Prop := Ct l g mX9_least 5 125 194 194 h [.ref x0] (ax_QI Q)
def L_X9_least_0 (l : Launch) (g : AG) (h : AH) (x0 : Nat)  (Q : Int32 → AH → Prop) : Prop := Wp l g mX9_least 5 125 194 194 194 0 [(0, .ref x0)] [] h (FM g 194 194 (ax_QI Q))
set_option maxRecDepth 100000 in
set_option maxHeartbeats 4000000 in
theorem s_X9_least_0 {l : Launch} {g : AG} {h : AH} {x0 : Nat}  {Q : Int32 → AH → Prop} (hb : (Is 194 x0 8) ∧ ( (Is 194 (h.2.2 x0 6) 1) ∧ ( C_X1_stands l g h (h.2.2 x0 6) (fun r5 h4 => ( ((r5 = 0 → (C_X9_refused l g h4 x0 6 (fun r9 h8 => ( Q r9 h8)))) ∧ (¬ (r5 = 0) → ((Is 194 (h4.2.2 x0 6) 1) ∧ ( C_X1_kindsMany l g h4 (h4.2.2 x0 6) (fun r13 h12 => ( C_X9_granted l g h12 x0 r13 (fun r16 h15 => ( Q r16 h15))))))))))))) : L_X9_least_0 l g h x0  Q := by
  obtain ⟨i1, hb⟩ := hb
  refine wp_aload_n 0 dX9_least_0 rfl rfl ?_
  obtain ⟨i2, hb⟩ := hb
  refine wp_getR dX9_least_1 fl_X9_44 i1 (i2.ne (by decide)) ?_
  refine wp_callVN (as := []) dX9_least_4 cb_X1_stands lk_X9_202 im_X1_stands se_X1_stands rfl (Nat.le_of_ble_eq_true rfl) ⟨by decide, by decide⟩ ⟨Nat.le_refl _, Nat.le_refl _, Nat.le_refl _⟩ i2 rfl (by decide) hb (fun r0 h4 hb => ?_)
  obtain ⟨r5, rfl, hb⟩ := hb
  refine wp_if_eq (tgt := 24) dX9_least_7 (by decide) (fun c6 => ?_) (fun c6 => ?_)
  · have hb := hb.1 c6
    refine wp_aload_n 0 dX9_least_24 rfl rfl ?_
    refine wp_bipush (v := 6) dX9_least_25 (by decide) ?_
    refine wp_callV (as := [.int 6]) dX9_least_27 cb_X9_refused lk_X9_76 im_X9_refused se_X9_refused rfl (Nat.le_of_ble_eq_true rfl) ⟨by decide, by decide⟩ ⟨Nat.le_refl _, Nat.le_refl _, Nat.le_refl _⟩ i1 rfl (by decide) hb (fun r0 h8 hb => ?_)
    obtain ⟨r9, rfl, hb⟩ := hb
    exact wp_iret rfl dX9_least_30 ⟨_, rfl, hb⟩
  · have hb := hb.2 c6
    refine wp_aload_n 0 dX9_least_10 rfl rfl ?_
    refine wp_aload_n 0 dX9_least_11 rfl rfl ?_
    obtain ⟨i10, hb⟩ := hb
    refine wp_getR dX9_least_12 fl_X9_44 i1 (i10.ne (by decide)) ?_
    refine wp_callVN (as := []) dX9_least_15 cb_X1_kindsMany lk_X9_229 im_X1_kindsMany se_X1_kindsMany rfl (Nat.le_of_ble_eq_true rfl) ⟨by decide, by decide⟩ ⟨Nat.le_refl _, Nat.le_refl _, Nat.le_refl _⟩ i10 rfl (by decide) hb (fun r0 h12 hb => ?_)
    obtain ⟨r13, rfl, hb⟩ := hb
    refine wp_callV (as := [.int r13]) dX9_least_18 cb_X9_granted lk_X9_97 im_X9_granted se_X9_granted rfl (Nat.le_of_ble_eq_true rfl) ⟨by decide, by decide⟩ ⟨Nat.le_refl _, Nat.le_refl _, Nat.le_refl _⟩ i1 rfl (by decide) hb (fun r0 h15 hb => ?_)
    obtain ⟨r16, rfl, hb⟩ := hb
    refine wp_goto (tgt := 30) dX9_least_21 (by decide) ?_
    exact wp_iret rfl dX9_least_30 ⟨_, rfl, hb⟩
theorem c_X9_least {l : Launch} {g : AG} {h : AH} {x0 : Nat}  {Q : Int32 → AH → Prop} (hb : L_X9_least_0 l g h x0  Q) : C_X9_least l g h x0  Q := ax_met rfl rfl (Nat.le_of_ble_eq_true rfl) hb
def C_X1_viewsMany (l : Launch) (g : AG) (h : AH) (x0 : Nat)  (Q : Int32 → AH → Prop) : Prop := Ct l g mX1_viewsMany 3 74 194 194 h [.ref x0] (ax_QI Q)
def L_X1_viewsMany_0 (l : Launch) (g : AG) (h : AH) (x0 : Nat)  (Q : Int32 → AH → Prop) : Prop := Wp l g mX1_viewsMany 3 74 194 194 194 0 [(0, .ref x0)] [] h (FM g 194 194 (ax_QI Q))
def L_X1_viewsMany_9 (l : Launch) (g : AG) (h : AH) (x0 : Nat) (x1 : Int32)  (Q : Int32 → AH → Prop) : Prop := Wp l g mX1_viewsMany 3 74 194 194 194 9 [(0, .ref x0), (1, .int x1)] [] h (FM g 194 194 (ax_QI Q))
set_option maxRecDepth 100000 in
set_option maxHeartbeats 4000000 in
theorem s_X1_viewsMany_0 {l : Launch} {g : AG} {h : AH} {x0 : Nat}  {Q : Int32 → AH → Prop} (hb : (Is 194 x0 1) ∧ ( (Is 194 (h.2.2 x0 4) 5) ∧ ( C_X6_clear l g h (h.2.2 x0 4) (fun h4 => ( L_X1_viewsMany_9 l g h4 x0 0  Q))))) : L_X1_viewsMany_0 l g h x0  Q := by
  obtain ⟨i1, hb⟩ := hb
  refine wp_aload_n 0 dX1_viewsMany_0 rfl rfl ?_
  obtain ⟨i2, hb⟩ := hb
  refine wp_getR dX1_viewsMany_1 fl_X1_26 i1 (i2.ne (by decide)) ?_
  refine wp_callVN (as := []) dX1_viewsMany_4 cb_X6_clear lk_X1_56 im_X6_clear se_X6_clear rfl (Nat.le_of_ble_eq_true rfl) ⟨by decide, by decide⟩ ⟨Nat.le_refl _, Nat.le_refl _, Nat.le_refl _⟩ i2 rfl (by decide) hb (fun r0 h4 hb => ?_)
  obtain ⟨rfl, hb⟩ := hb
  refine wp_iconst (v := 0) dX1_viewsMany_7 (by decide) ?_
  refine wp_istore_n (lv2 := [(1, .int 0), (0, .ref x0)]) dX1_viewsMany_8 rfl (by decide) rfl ?_
  exact wp_sub [1, 0] rfl hb
set_option maxRecDepth 100000 in
set_option maxHeartbeats 4000000 in
theorem s_X1_viewsMany_9 {l : Launch} {g : AG} {h : AH} {x0 : Nat} {x1 : Int32}  {Q : Int32 → AH → Prop} (hb : (Is 194 x0 1) ∧ ( (Is 194 (h.2.2 x0 2) 5) ∧ ( ((h.1 (h.2.2 x0 2) 0 ≤ x1 → ((Is 194 (h.2.2 x0 4) 5) ∧ ( Q (h.1 (h.2.2 x0 4) 0) h))) ∧ (¬ (h.1 (h.2.2 x0 2) 0 ≤ x1) → ((Is 194 (h.2.2 x0 4) 5) ∧ ( (Is 194 (h.2.2 x0 1) 0) ∧ ( (Is 194 (h.2.2 x0 2) 5) ∧ ( (Is 194 (h.2.2 (h.2.2 x0 2) 1) 21) ∧ ( (vp_in x1 (ax_s (h.2.2 (h.2.2 x0 2) 1)).2) ∧ ( C_X0_viewOf l g h (h.2.2 x0 1) (h.2.1 (h.2.2 (h.2.2 x0 2) 1) x1.toNatClampNeg) (fun r16 h15 => ( C_X6_meet l g h15 (h.2.2 x0 4) r16 0 (-1) (-1) (fun r19 h18 => ( ∀ v20 : Int32, v20 = x1 + (1) → ( L_X1_viewsMany_9 l g h18 x0 v20  Q)))))))))))))))) : L_X1_viewsMany_9 l g h x0 x1  Q := by
  refine wp_iload_n 1 dX1_viewsMany_9 rfl rfl ?_
  obtain ⟨i5, hb⟩ := hb
  refine wp_aload_n 0 dX1_viewsMany_10 rfl rfl ?_
  obtain ⟨i6, hb⟩ := hb
  refine wp_getR dX1_viewsMany_11 fl_X1_18 i5 (i6.ne (by decide)) ?_
  refine wp_getI dX1_viewsMany_14 fl_X1_50 i6 ?_
  refine wp_icmp_ge (tgt := 53) dX1_viewsMany_17 (by decide) (fun c7 => ?_) (fun c7 => ?_)
  · have hb := hb.1 c7
    refine wp_aload_n 0 dX1_viewsMany_53 rfl rfl ?_
    obtain ⟨i8, hb⟩ := hb
    refine wp_getR dX1_viewsMany_54 fl_X1_26 i5 (i8.ne (by decide)) ?_
    refine wp_getI dX1_viewsMany_57 fl_X1_50 i8 ?_
    exact wp_iret rfl dX1_viewsMany_60 ⟨_, rfl, hb⟩
  · have hb := hb.2 c7
    refine wp_aload_n 0 dX1_viewsMany_20 rfl rfl ?_
    obtain ⟨i9, hb⟩ := hb
    refine wp_getR dX1_viewsMany_21 fl_X1_26 i5 (i9.ne (by decide)) ?_
    refine wp_aload_n 0 dX1_viewsMany_24 rfl rfl ?_
    obtain ⟨i10, hb⟩ := hb
    refine wp_getR dX1_viewsMany_25 fl_X1_42 i5 (i10.ne (by decide)) ?_
    refine wp_aload_n 0 dX1_viewsMany_28 rfl rfl ?_
    obtain ⟨i11, hb⟩ := hb
    refine wp_getR dX1_viewsMany_29 fl_X1_18 i5 (i11.ne (by decide)) ?_
    obtain ⟨i12, hb⟩ := hb
    refine wp_getR dX1_viewsMany_32 fl_X1_73 i11 (i12.ne (by decide)) ?_
    refine wp_iload_n 1 dX1_viewsMany_35 rfl rfl ?_
    obtain ⟨b13, hb⟩ := hb
    refine wp_laload dX1_viewsMany_36 i12 b13 ?_
    refine wp_callVN (as := [.long (h.2.1 (h.2.2 (h.2.2 x0 2) 1) x1.toNatClampNeg)]) dX1_viewsMany_37 cb_X0_viewOf lk_X1_124 im_X0_viewOf se_X0_viewOf rfl (Nat.le_of_ble_eq_true rfl) ⟨by decide, by decide⟩ ⟨Nat.le_refl _, Nat.le_refl _, Nat.le_refl _⟩ i10 rfl (by decide) hb (fun r0 h15 hb => ?_)
    obtain ⟨r16, rfl, hb⟩ := hb
    refine wp_lconst (v := 0) dX1_viewsMany_40 (by decide) ?_
    refine wp_iconst (v := (-1)) dX1_viewsMany_41 (by decide) ?_
    refine wp_iconst (v := (-1)) dX1_viewsMany_42 (by decide) ?_
    refine wp_callVN (as := [.long r16, .long 0, .int (-1), .int (-1)]) dX1_viewsMany_43 cb_X6_meet lk_X1_65 im_X6_meet se_X6_meet rfl (Nat.le_of_ble_eq_true rfl) ⟨by decide, by decide⟩ ⟨Nat.le_refl _, Nat.le_refl _, Nat.le_refl _⟩ i9 rfl (by decide) hb (fun r0 h18 hb => ?_)
    obtain ⟨r19, rfl, hb⟩ := hb
    refine wp_pop dX1_viewsMany_46 rfl ?_
    obtain ⟨v20, e21⟩ : ∃ y : Int32, y = x1 + (1) := ⟨_, rfl⟩
    have hb := hb v20 e21
    refine wp_iinc (v := v20) (lv2 := [(1, .int v20), (0, .ref x0)]) 1 dX1_viewsMany_47 rfl (by rw [e21]; rfl) (by decide) rfl ?_
    refine wp_goto (tgt := 9) dX1_viewsMany_50 (by decide) ?_
    exact wp_sub [1, 0] rfl hb
theorem c_X1_viewsMany {l : Launch} {g : AG} {h : AH} {x0 : Nat}  {Q : Int32 → AH → Prop} (hb : L_X1_viewsMany_0 l g h x0  Q) : C_X1_viewsMany l g h x0  Q := ax_met rfl rfl (Nat.le_of_ble_eq_true rfl) hb
def C_X9_views (l : Launch) (g : AG) (h : AH) (x0 : Nat)  (Q : Int32 → AH → Prop) : Prop := Ct l g mX9_views 4 95 194 194 h [.ref x0] (ax_QI Q)
def L_X9_views_0 (l : Launch) (g : AG) (h : AH) (x0 : Nat)  (Q : Int32 → AH → Prop) : Prop := Wp l g mX9_views 4 95 194 194 194 0 [(0, .ref x0)] [] h (FM g 194 194 (ax_QI Q))
set_option maxRecDepth 100000 in
set_option maxHeartbeats 4000000 in
theorem s_X9_views_0 {l : Launch} {g : AG} {h : AH} {x0 : Nat}  {Q : Int32 → AH → Prop} (hb : (Is 194 x0 8) ∧ ( (Is 194 (h.2.2 x0 6) 1) ∧ ( C_X1_stands l g h (h.2.2 x0 6) (fun r5 h4 => ( ((r5 = 0 → (C_X9_refused l g h4 x0 6 (fun r9 h8 => ( Q r9 h8)))) ∧ (¬ (r5 = 0) → ((Is 194 (h4.2.2 x0 6) 1) ∧ ( C_X1_viewsMany l g h4 (h4.2.2 x0 6) (fun r13 h12 => ( C_X9_granted l g h12 x0 r13 (fun r16 h15 => ( Q r16 h15))))))))))))) : L_X9_views_0 l g h x0  Q := by
  obtain ⟨i1, hb⟩ := hb
  refine wp_aload_n 0 dX9_views_0 rfl rfl ?_
  obtain ⟨i2, hb⟩ := hb
  refine wp_getR dX9_views_1 fl_X9_44 i1 (i2.ne (by decide)) ?_
  refine wp_callVN (as := []) dX9_views_4 cb_X1_stands lk_X9_202 im_X1_stands se_X1_stands rfl (Nat.le_of_ble_eq_true rfl) ⟨by decide, by decide⟩ ⟨Nat.le_refl _, Nat.le_refl _, Nat.le_refl _⟩ i2 rfl (by decide) hb (fun r0 h4 hb => ?_)
  obtain ⟨r5, rfl, hb⟩ := hb
  refine wp_if_eq (tgt := 24) dX9_views_7 (by decide) (fun c6 => ?_) (fun c6 => ?_)
  · have hb := hb.1 c6
    refine wp_aload_n 0 dX9_views_24 rfl rfl ?_
    refine wp_bipush (v := 6) dX9_views_25 (by decide) ?_
    refine wp_callV (as := [.int 6]) dX9_views_27 cb_X9_refused lk_X9_76 im_X9_refused se_X9_refused rfl (Nat.le_of_ble_eq_true rfl) ⟨by decide, by decide⟩ ⟨Nat.le_refl _, Nat.le_refl _, Nat.le_refl _⟩ i1 rfl (by decide) hb (fun r0 h8 hb => ?_)
    obtain ⟨r9, rfl, hb⟩ := hb
    exact wp_iret rfl dX9_views_30 ⟨_, rfl, hb⟩
  · have hb := hb.2 c6
    refine wp_aload_n 0 dX9_views_10 rfl rfl ?_
    refine wp_aload_n 0 dX9_views_11 rfl rfl ?_
    obtain ⟨i10, hb⟩ := hb
    refine wp_getR dX9_views_12 fl_X9_44 i1 (i10.ne (by decide)) ?_
    refine wp_callVN (as := []) dX9_views_15 cb_X1_viewsMany lk_X9_232 im_X1_viewsMany se_X1_viewsMany rfl (Nat.le_of_ble_eq_true rfl) ⟨by decide, by decide⟩ ⟨Nat.le_refl _, Nat.le_refl _, Nat.le_refl _⟩ i10 rfl (by decide) hb (fun r0 h12 hb => ?_)
    obtain ⟨r13, rfl, hb⟩ := hb
    refine wp_callV (as := [.int r13]) dX9_views_18 cb_X9_granted lk_X9_97 im_X9_granted se_X9_granted rfl (Nat.le_of_ble_eq_true rfl) ⟨by decide, by decide⟩ ⟨Nat.le_refl _, Nat.le_refl _, Nat.le_refl _⟩ i1 rfl (by decide) hb (fun r0 h15 hb => ?_)
    obtain ⟨r16, rfl, hb⟩ := hb
    refine wp_goto (tgt := 30) dX9_views_21 (by decide) ?_
    exact wp_iret rfl dX9_views_30 ⟨_, rfl, hb⟩
theorem c_X9_views {l : Launch} {g : AG} {h : AH} {x0 : Nat}  {Q : Int32 → AH → Prop} (hb : L_X9_views_0 l g h x0  Q) : C_X9_views l g h x0  Q := ax_met rfl rfl (Nat.le_of_ble_eq_true rfl) hb
def C_X1_deepest (l : Launch) (g : AG) (h : AH) (x0 : Nat)  (Q : Int32 → AH → Prop) : Prop := Ct l g mX1_deepest 1 21 194 194 h [.ref x0] (ax_QI Q)
def L_X1_deepest_0 (l : Launch) (g : AG) (h : AH) (x0 : Nat)  (Q : Int32 → AH → Prop) : Prop := Wp l g mX1_deepest 1 21 194 194 194 0 [(0, .ref x0)] [] h (FM g 194 194 (ax_QI Q))
def L_X1_deepest_4 (l : Launch) (g : AG) (h : AH) (x0 : Nat) (x1 : Int32) (x2 : Int32)  (Q : Int32 → AH → Prop) : Prop := Wp l g mX1_deepest 1 21 194 194 194 4 [(0, .ref x0), (1, .int x1), (2, .int x2)] [] h (FM g 194 194 (ax_QI Q))
set_option maxRecDepth 100000 in
set_option maxHeartbeats 4000000 in
theorem s_X1_deepest_0 {l : Launch} {g : AG} {h : AH} {x0 : Nat}  {Q : Int32 → AH → Prop} (hb : L_X1_deepest_4 l g h x0 0 0  Q) : L_X1_deepest_0 l g h x0  Q := by
  refine wp_iconst (v := 0) dX1_deepest_0 (by decide) ?_
  refine wp_istore_n (lv2 := [(1, .int 0), (0, .ref x0)]) dX1_deepest_1 rfl (by decide) rfl ?_
  refine wp_iconst (v := 0) dX1_deepest_2 (by decide) ?_
  refine wp_istore_n (lv2 := [(2, .int 0), (1, .int 0), (0, .ref x0)]) dX1_deepest_3 rfl (by decide) rfl ?_
  exact wp_sub [2, 1, 0] rfl hb
set_option maxRecDepth 100000 in
set_option maxHeartbeats 4000000 in
theorem s_X1_deepest_4 {l : Launch} {g : AG} {h : AH} {x0 : Nat} {x1 : Int32} {x2 : Int32}  {Q : Int32 → AH → Prop} (hb : (Is 194 x0 1) ∧ ( (Is 194 (h.2.2 x0 2) 5) ∧ ( ((h.1 (h.2.2 x0 2) 0 ≤ x2 → (Q x1 h)) ∧ (¬ (h.1 (h.2.2 x0 2) 0 ≤ x2) → ((Is 194 (h.2.2 x0 2) 5) ∧ ( (Is 194 (h.2.2 (h.2.2 x0 2) 5) 20) ∧ ( (vp_in x2 (ax_s (h.2.2 (h.2.2 x0 2) 5)).2) ∧ ( ∀ v7 : Int32, v7 = (if x1 < h.1 (h.2.2 (h.2.2 x0 2) 5) x2.toNatClampNeg then h.1 (h.2.2 (h.2.2 x0 2) 5) x2.toNatClampNeg else x1) → ( ∀ v9 : Int32, v9 = x2 + (1) → ( L_X1_deepest_4 l g h x0 v7 v9  Q))))))))))) : L_X1_deepest_4 l g h x0 x1 x2  Q := by
  refine wp_iload_n 2 dX1_deepest_4 rfl rfl ?_
  obtain ⟨i1, hb⟩ := hb
  refine wp_aload_n 0 dX1_deepest_5 rfl rfl ?_
  obtain ⟨i2, hb⟩ := hb
  refine wp_getR dX1_deepest_6 fl_X1_18 i1 (i2.ne (by decide)) ?_
  refine wp_getI dX1_deepest_9 fl_X1_50 i2 ?_
  refine wp_icmp_ge (tgt := 35) dX1_deepest_12 (by decide) (fun c3 => ?_) (fun c3 => ?_)
  · have hb := hb.1 c3
    refine wp_iload_n 1 dX1_deepest_35 rfl rfl ?_
    exact wp_iret rfl dX1_deepest_36 ⟨_, rfl, hb⟩
  · have hb := hb.2 c3
    refine wp_iload_n 1 dX1_deepest_15 rfl rfl ?_
    refine wp_aload_n 0 dX1_deepest_16 rfl rfl ?_
    obtain ⟨i4, hb⟩ := hb
    refine wp_getR dX1_deepest_17 fl_X1_18 i1 (i4.ne (by decide)) ?_
    obtain ⟨i5, hb⟩ := hb
    refine wp_getR dX1_deepest_20 fl_X1_89 i4 (i5.ne (by decide)) ?_
    refine wp_iload_n 2 dX1_deepest_23 rfl rfl ?_
    obtain ⟨b6, hb⟩ := hb
    refine wp_iaload dX1_deepest_24 i5 b6 ?_
    refine wp_mmax dX1_deepest_25 lk_X1_92 (Nat.le_of_ble_eq_true rfl) (by decide) (by decide) (by decide) ?_
    refine wp_topi (fun v7 e8 => ?_)
    have hb := hb v7 e8
    refine wp_istore_n (lv2 := [(1, .int v7), (0, .ref x0), (2, .int x2)]) dX1_deepest_28 rfl (by decide) rfl ?_
    obtain ⟨v9, e10⟩ : ∃ y : Int32, y = x2 + (1) := ⟨_, rfl⟩
    have hb := hb v9 e10
    refine wp_iinc (v := v9) (lv2 := [(2, .int v9), (1, .int v7), (0, .ref x0)]) 2 dX1_deepest_29 rfl (by rw [e10]; rfl) (by decide) rfl ?_
    refine wp_goto (tgt := 4) dX1_deepest_32 (by decide) ?_
    exact wp_sub [2, 1, 0] rfl hb
theorem c_X1_deepest {l : Launch} {g : AG} {h : AH} {x0 : Nat}  {Q : Int32 → AH → Prop} (hb : L_X1_deepest_0 l g h x0  Q) : C_X1_deepest l g h x0  Q := ax_met rfl rfl (Nat.le_of_ble_eq_true rfl) hb
def C_X9_farthest (l : Launch) (g : AG) (h : AH) (x0 : Nat)  (Q : Int32 → AH → Prop) : Prop := Ct l g mX9_farthest 2 43 194 194 h [.ref x0] (ax_QI Q)
def L_X9_farthest_0 (l : Launch) (g : AG) (h : AH) (x0 : Nat)  (Q : Int32 → AH → Prop) : Prop := Wp l g mX9_farthest 2 43 194 194 194 0 [(0, .ref x0)] [] h (FM g 194 194 (ax_QI Q))
set_option maxRecDepth 100000 in
set_option maxHeartbeats 4000000 in
theorem s_X9_farthest_0 {l : Launch} {g : AG} {h : AH} {x0 : Nat}  {Q : Int32 → AH → Prop} (hb : (Is 194 x0 8) ∧ ( (Is 194 (h.2.2 x0 6) 1) ∧ ( C_X1_stands l g h (h.2.2 x0 6) (fun r5 h4 => ( ((r5 = 0 → (C_X9_refused l g h4 x0 6 (fun r9 h8 => ( Q r9 h8)))) ∧ (¬ (r5 = 0) → ((Is 194 (h4.2.2 x0 6) 1) ∧ ( C_X1_deepest l g h4 (h4.2.2 x0 6) (fun r13 h12 => ( C_X9_granted l g h12 x0 r13 (fun r16 h15 => ( Q r16 h15))))))))))))) : L_X9_farthest_0 l g h x0  Q := by
  obtain ⟨i1, hb⟩ := hb
  refine wp_aload_n 0 dX9_farthest_0 rfl rfl ?_
  obtain ⟨i2, hb⟩ := hb
  refine wp_getR dX9_farthest_1 fl_X9_44 i1 (i2.ne (by decide)) ?_
  refine wp_callVN (as := []) dX9_farthest_4 cb_X1_stands lk_X9_202 im_X1_stands se_X1_stands rfl (Nat.le_of_ble_eq_true rfl) ⟨by decide, by decide⟩ ⟨Nat.le_refl _, Nat.le_refl _, Nat.le_refl _⟩ i2 rfl (by decide) hb (fun r0 h4 hb => ?_)
  obtain ⟨r5, rfl, hb⟩ := hb
  refine wp_if_eq (tgt := 24) dX9_farthest_7 (by decide) (fun c6 => ?_) (fun c6 => ?_)
  · have hb := hb.1 c6
    refine wp_aload_n 0 dX9_farthest_24 rfl rfl ?_
    refine wp_bipush (v := 6) dX9_farthest_25 (by decide) ?_
    refine wp_callV (as := [.int 6]) dX9_farthest_27 cb_X9_refused lk_X9_76 im_X9_refused se_X9_refused rfl (Nat.le_of_ble_eq_true rfl) ⟨by decide, by decide⟩ ⟨Nat.le_refl _, Nat.le_refl _, Nat.le_refl _⟩ i1 rfl (by decide) hb (fun r0 h8 hb => ?_)
    obtain ⟨r9, rfl, hb⟩ := hb
    exact wp_iret rfl dX9_farthest_30 ⟨_, rfl, hb⟩
  · have hb := hb.2 c6
    refine wp_aload_n 0 dX9_farthest_10 rfl rfl ?_
    refine wp_aload_n 0 dX9_farthest_11 rfl rfl ?_
    obtain ⟨i10, hb⟩ := hb
    refine wp_getR dX9_farthest_12 fl_X9_44 i1 (i10.ne (by decide)) ?_
    refine wp_callVN (as := []) dX9_farthest_15 cb_X1_deepest lk_X9_235 im_X1_deepest se_X1_deepest rfl (Nat.le_of_ble_eq_true rfl) ⟨by decide, by decide⟩ ⟨Nat.le_refl _, Nat.le_refl _, Nat.le_refl _⟩ i10 rfl (by decide) hb (fun r0 h12 hb => ?_)
    obtain ⟨r13, rfl, hb⟩ := hb
    refine wp_callV (as := [.int r13]) dX9_farthest_18 cb_X9_granted lk_X9_97 im_X9_granted se_X9_granted rfl (Nat.le_of_ble_eq_true rfl) ⟨by decide, by decide⟩ ⟨Nat.le_refl _, Nat.le_refl _, Nat.le_refl _⟩ i1 rfl (by decide) hb (fun r0 h15 hb => ?_)
    obtain ⟨r16, rfl, hb⟩ := hb
    refine wp_goto (tgt := 30) dX9_farthest_21 (by decide) ?_
    exact wp_iret rfl dX9_farthest_30 ⟨_, rfl, hb⟩
theorem c_X9_farthest {l : Launch} {g : AG} {h : AH} {x0 : Nat}  {Q : Int32 → AH → Prop} (hb : L_X9_farthest_0 l g h x0  Q) : C_X9_farthest l g h x0  Q := ax_met rfl rfl (Nat.le_of_ble_eq_true rfl) hb
def C_X1_waysMany (l : Launch) (g : AG) (h : AH) (x0 : Nat)  (Q : Int32 → AH → Prop) : Prop := Ct l g mX1_waysMany 1 23 194 194 h [.ref x0] (ax_QI Q)
def L_X1_waysMany_0 (l : Launch) (g : AG) (h : AH) (x0 : Nat)  (Q : Int32 → AH → Prop) : Prop := Wp l g mX1_waysMany 1 23 194 194 194 0 [(0, .ref x0)] [] h (FM g 194 194 (ax_QI Q))
def L_X1_waysMany_4 (l : Launch) (g : AG) (h : AH) (x0 : Nat) (x1 : Int32) (x2 : Int32)  (Q : Int32 → AH → Prop) : Prop := Wp l g mX1_waysMany 1 23 194 194 194 4 [(0, .ref x0), (1, .int x1), (2, .int x2)] [] h (FM g 194 194 (ax_QI Q))
set_option maxRecDepth 100000 in
set_option maxHeartbeats 4000000 in
theorem s_X1_waysMany_0 {l : Launch} {g : AG} {h : AH} {x0 : Nat}  {Q : Int32 → AH → Prop} (hb : L_X1_waysMany_4 l g h x0 0 0  Q) : L_X1_waysMany_0 l g h x0  Q := by
  refine wp_iconst (v := 0) dX1_waysMany_0 (by decide) ?_
  refine wp_istore_n (lv2 := [(1, .int 0), (0, .ref x0)]) dX1_waysMany_1 rfl (by decide) rfl ?_
  refine wp_iconst (v := 0) dX1_waysMany_2 (by decide) ?_
  refine wp_istore_n (lv2 := [(2, .int 0), (1, .int 0), (0, .ref x0)]) dX1_waysMany_3 rfl (by decide) rfl ?_
  exact wp_sub [2, 1, 0] rfl hb
set_option maxRecDepth 100000 in
set_option maxHeartbeats 4000000 in
theorem s_X1_waysMany_4 {l : Launch} {g : AG} {h : AH} {x0 : Nat} {x1 : Int32} {x2 : Int32}  {Q : Int32 → AH → Prop} (hb : (Is 194 x0 1) ∧ ( (Is 194 (h.2.2 x0 2) 5) ∧ ( ((h.1 (h.2.2 x0 2) 0 ≤ x2 → (Q x1 h)) ∧ (¬ (h.1 (h.2.2 x0 2) 0 ≤ x2) → (C_X1_waysFrom l g h x0 x2 (fun r6 h5 => ( ∀ v7 : Int32, v7 = (x1 + r6) → ( ∀ v9 : Int32, v9 = x2 + (1) → ( L_X1_waysMany_4 l g h5 x0 v7 v9  Q)))))))))) : L_X1_waysMany_4 l g h x0 x1 x2  Q := by
  refine wp_iload_n 2 dX1_waysMany_4 rfl rfl ?_
  obtain ⟨i1, hb⟩ := hb
  refine wp_aload_n 0 dX1_waysMany_5 rfl rfl ?_
  obtain ⟨i2, hb⟩ := hb
  refine wp_getR dX1_waysMany_6 fl_X1_18 i1 (i2.ne (by decide)) ?_
  refine wp_getI dX1_waysMany_9 fl_X1_50 i2 ?_
  refine wp_icmp_ge (tgt := 29) dX1_waysMany_12 (by decide) (fun c3 => ?_) (fun c3 => ?_)
  · have hb := hb.1 c3
    refine wp_iload_n 1 dX1_waysMany_29 rfl rfl ?_
    exact wp_iret rfl dX1_waysMany_30 ⟨_, rfl, hb⟩
  · have hb := hb.2 c3
    refine wp_iload_n 1 dX1_waysMany_15 rfl rfl ?_
    refine wp_aload_n 0 dX1_waysMany_16 rfl rfl ?_
    refine wp_iload_n 2 dX1_waysMany_17 rfl rfl ?_
    refine wp_callV (as := [.int x2]) dX1_waysMany_18 cb_X1_waysFrom lk_X1_85 im_X1_waysFrom se_X1_waysFrom rfl (Nat.le_of_ble_eq_true rfl) ⟨by decide, by decide⟩ ⟨Nat.le_refl _, Nat.le_refl _, Nat.le_refl _⟩ i1 rfl (by decide) hb (fun r0 h5 hb => ?_)
    obtain ⟨r6, rfl, hb⟩ := hb
    refine wp_iadd dX1_waysMany_21 ?_
    refine wp_topi (fun v7 e8 => ?_)
    have hb := hb v7 e8
    refine wp_istore_n (lv2 := [(1, .int v7), (0, .ref x0), (2, .int x2)]) dX1_waysMany_22 rfl (by decide) rfl ?_
    obtain ⟨v9, e10⟩ : ∃ y : Int32, y = x2 + (1) := ⟨_, rfl⟩
    have hb := hb v9 e10
    refine wp_iinc (v := v9) (lv2 := [(2, .int v9), (1, .int v7), (0, .ref x0)]) 2 dX1_waysMany_23 rfl (by rw [e10]; rfl) (by decide) rfl ?_
    refine wp_goto (tgt := 4) dX1_waysMany_26 (by decide) ?_
    exact wp_sub [2, 1, 0] rfl hb
theorem c_X1_waysMany {l : Launch} {g : AG} {h : AH} {x0 : Nat}  {Q : Int32 → AH → Prop} (hb : L_X1_waysMany_0 l g h x0  Q) : C_X1_waysMany l g h x0  Q := ax_met rfl rfl (Nat.le_of_ble_eq_true rfl) hb
def C_X9_ways (l : Launch) (g : AG) (h : AH) (x0 : Nat)  (Q : Int32 → AH → Prop) : Prop := Ct l g mX9_ways 2 45 194 194 h [.ref x0] (ax_QI Q)
def L_X9_ways_0 (l : Launch) (g : AG) (h : AH) (x0 : Nat)  (Q : Int32 → AH → Prop) : Prop := Wp l g mX9_ways 2 45 194 194 194 0 [(0, .ref x0)] [] h (FM g 194 194 (ax_QI Q))
set_option maxRecDepth 100000 in
set_option maxHeartbeats 4000000 in
theorem s_X9_ways_0 {l : Launch} {g : AG} {h : AH} {x0 : Nat}  {Q : Int32 → AH → Prop} (hb : (Is 194 x0 8) ∧ ( (Is 194 (h.2.2 x0 6) 1) ∧ ( C_X1_stands l g h (h.2.2 x0 6) (fun r5 h4 => ( ((r5 = 0 → (C_X9_refused l g h4 x0 6 (fun r9 h8 => ( Q r9 h8)))) ∧ (¬ (r5 = 0) → ((Is 194 (h4.2.2 x0 6) 1) ∧ ( C_X1_waysMany l g h4 (h4.2.2 x0 6) (fun r13 h12 => ( C_X9_granted l g h12 x0 r13 (fun r16 h15 => ( Q r16 h15))))))))))))) : L_X9_ways_0 l g h x0  Q := by
  obtain ⟨i1, hb⟩ := hb
  refine wp_aload_n 0 dX9_ways_0 rfl rfl ?_
  obtain ⟨i2, hb⟩ := hb
  refine wp_getR dX9_ways_1 fl_X9_44 i1 (i2.ne (by decide)) ?_
  refine wp_callVN (as := []) dX9_ways_4 cb_X1_stands lk_X9_202 im_X1_stands se_X1_stands rfl (Nat.le_of_ble_eq_true rfl) ⟨by decide, by decide⟩ ⟨Nat.le_refl _, Nat.le_refl _, Nat.le_refl _⟩ i2 rfl (by decide) hb (fun r0 h4 hb => ?_)
  obtain ⟨r5, rfl, hb⟩ := hb
  refine wp_if_eq (tgt := 24) dX9_ways_7 (by decide) (fun c6 => ?_) (fun c6 => ?_)
  · have hb := hb.1 c6
    refine wp_aload_n 0 dX9_ways_24 rfl rfl ?_
    refine wp_bipush (v := 6) dX9_ways_25 (by decide) ?_
    refine wp_callV (as := [.int 6]) dX9_ways_27 cb_X9_refused lk_X9_76 im_X9_refused se_X9_refused rfl (Nat.le_of_ble_eq_true rfl) ⟨by decide, by decide⟩ ⟨Nat.le_refl _, Nat.le_refl _, Nat.le_refl _⟩ i1 rfl (by decide) hb (fun r0 h8 hb => ?_)
    obtain ⟨r9, rfl, hb⟩ := hb
    exact wp_iret rfl dX9_ways_30 ⟨_, rfl, hb⟩
  · have hb := hb.2 c6
    refine wp_aload_n 0 dX9_ways_10 rfl rfl ?_
    refine wp_aload_n 0 dX9_ways_11 rfl rfl ?_
    obtain ⟨i10, hb⟩ := hb
    refine wp_getR dX9_ways_12 fl_X9_44 i1 (i10.ne (by decide)) ?_
    refine wp_callVN (as := []) dX9_ways_15 cb_X1_waysMany lk_X9_238 im_X1_waysMany se_X1_waysMany rfl (Nat.le_of_ble_eq_true rfl) ⟨by decide, by decide⟩ ⟨Nat.le_refl _, Nat.le_refl _, Nat.le_refl _⟩ i10 rfl (by decide) hb (fun r0 h12 hb => ?_)
    obtain ⟨r13, rfl, hb⟩ := hb
    refine wp_callV (as := [.int r13]) dX9_ways_18 cb_X9_granted lk_X9_97 im_X9_granted se_X9_granted rfl (Nat.le_of_ble_eq_true rfl) ⟨by decide, by decide⟩ ⟨Nat.le_refl _, Nat.le_refl _, Nat.le_refl _⟩ i1 rfl (by decide) hb (fun r0 h15 hb => ?_)
    obtain ⟨r16, rfl, hb⟩ := hb
    refine wp_goto (tgt := 30) dX9_ways_21 (by decide) ?_
    exact wp_iret rfl dX9_ways_30 ⟨_, rfl, hb⟩
theorem c_X9_ways {l : Launch} {g : AG} {h : AH} {x0 : Nat}  {Q : Int32 → AH → Prop} (hb : L_X9_ways_0 l g h x0  Q) : C_X9_ways l g h x0  Q := ax_met rfl rfl (Nat.le_of_ble_eq_true rfl) hb
def C_X9_push (l : Launch) (g : AG) (h : AH) (x0 : Nat) (x1 : Int32)  (Q : Int32 → AH → Prop) : Prop := Ct l g mX9_push 1 21 194 194 h [.ref x0, .int x1] (ax_QI Q)
def L_X9_push_0 (l : Launch) (g : AG) (h : AH) (x0 : Nat) (x1 : Int32)  (Q : Int32 → AH → Prop) : Prop := Wp l g mX9_push 1 21 194 194 194 0 [(0, .ref x0), (1, .int x1)] [] h (FM g 194 194 (ax_QI Q))
set_option maxRecDepth 100000 in
set_option maxHeartbeats 4000000 in
theorem s_X9_push_0 {l : Launch} {g : AG} {h : AH} {x0 : Nat} {x1 : Int32}  {Q : Int32 → AH → Prop} (hb : ((x1 < 0 → ((Is 194 x0 8) ∧ ( C_X9_refused l g h x0 2 (fun r5 h4 => ( Q r5 h4))))) ∧ (¬ (x1 < 0) → (((x1 < 27 → ((Is 194 x0 8) ∧ ( ((h.1 x0 9 < 400 → ((Is 194 (h.2.2 x0 8) 20) ∧ ( (vp_in (h.1 x0 9) (ax_s (h.2.2 x0 8)).2) ∧ ( ∀ h11 : AH, h11 = ax_setI h (h.2.2 x0 8) (h.1 x0 9).toNatClampNeg x1 → ( ∀ h13 : AH, h13 = ax_setI h11 x0 9 ((h11.1 x0 9) + 1) → ( C_X9_granted l g h13 x0 (h13.1 x0 9) (fun r17 h16 => ( Q r17 h16)))))))) ∧ (¬ (h.1 x0 9 < 400) → (C_X9_refused l g h x0 4 (fun r20 h19 => ( Q r20 h19)))))))) ∧ (¬ (x1 < 27) → ((Is 194 x0 8) ∧ ( C_X9_refused l g h x0 2 (fun r24 h23 => ( Q r24 h23)))))))))) : L_X9_push_0 l g h x0 x1  Q := by
  refine wp_iload_n 1 dX9_push_0 rfl rfl ?_
  refine wp_if_lt (tgt := 10) dX9_push_1 (by decide) (fun c1 => ?_) (fun c1 => ?_)
  · have hb := hb.1 c1
    obtain ⟨i2, hb⟩ := hb
    refine wp_aload_n 0 dX9_push_10 rfl rfl ?_
    refine wp_iconst (v := 2) dX9_push_11 (by decide) ?_
    refine wp_callV (as := [.int 2]) dX9_push_12 cb_X9_refused lk_X9_76 im_X9_refused se_X9_refused rfl (Nat.le_of_ble_eq_true rfl) ⟨by decide, by decide⟩ ⟨Nat.le_refl _, Nat.le_refl _, Nat.le_refl _⟩ i2 rfl (by decide) hb (fun r0 h4 hb => ?_)
    obtain ⟨r5, rfl, hb⟩ := hb
    exact wp_iret rfl dX9_push_15 ⟨_, rfl, hb⟩
  · have hb := hb.2 c1
    refine wp_iload_n 1 dX9_push_4 rfl rfl ?_
    refine wp_bipush (v := 27) dX9_push_5 (by decide) ?_
    refine wp_icmp_lt (tgt := 16) dX9_push_7 (by decide) (fun c6 => ?_) (fun c6 => ?_)
    · have hb := hb.1 c6
      obtain ⟨i7, hb⟩ := hb
      refine wp_aload_n 0 dX9_push_16 rfl rfl ?_
      refine wp_getI dX9_push_17 fl_X9_60 i7 ?_
      refine wp_sipush (v := 400) dX9_push_20 (by decide) ?_
      refine wp_icmp_lt (tgt := 32) dX9_push_23 (by decide) (fun c8 => ?_) (fun c8 => ?_)
      · have hb := hb.1 c8
        refine wp_aload_n 0 dX9_push_32 rfl rfl ?_
        obtain ⟨i9, hb⟩ := hb
        refine wp_getR dX9_push_33 fl_X9_57 i7 (i9.ne (by decide)) ?_
        refine wp_aload_n 0 dX9_push_36 rfl rfl ?_
        refine wp_getI dX9_push_37 fl_X9_60 i7 ?_
        refine wp_iload_n 1 dX9_push_40 rfl rfl ?_
        obtain ⟨b10, hb⟩ := hb
        refine wp_iastore dX9_push_41 i9 b10 ?_
        refine wp_topH (fun h11 e12 => ?_)
        have hb := hb h11 e12
        refine wp_aload_n 0 dX9_push_42 rfl rfl ?_
        refine wp_dup dX9_push_43 rfl ?_
        refine wp_getI dX9_push_44 fl_X9_60 i7 ?_
        refine wp_iconst (v := 1) dX9_push_47 (by decide) ?_
        refine wp_iadd dX9_push_48 ?_
        refine wp_putI dX9_push_49 fl_X9_60 (Or.inl rfl) i7 ?_
        refine wp_topH (fun h13 e14 => ?_)
        have hb := hb h13 e14
        refine wp_aload_n 0 dX9_push_52 rfl rfl ?_
        refine wp_aload_n 0 dX9_push_53 rfl rfl ?_
        refine wp_getI dX9_push_54 fl_X9_60 i7 ?_
        refine wp_callV (as := [.int (h13.1 x0 9)]) dX9_push_57 cb_X9_granted lk_X9_97 im_X9_granted se_X9_granted rfl (Nat.le_of_ble_eq_true rfl) ⟨by decide, by decide⟩ ⟨Nat.le_refl _, Nat.le_refl _, Nat.le_refl _⟩ i7 rfl (by decide) hb (fun r0 h16 hb => ?_)
        obtain ⟨r17, rfl, hb⟩ := hb
        exact wp_iret rfl dX9_push_60 ⟨_, rfl, hb⟩
      · have hb := hb.2 c8
        refine wp_aload_n 0 dX9_push_26 rfl rfl ?_
        refine wp_iconst (v := 4) dX9_push_27 (by decide) ?_
        refine wp_callV (as := [.int 4]) dX9_push_28 cb_X9_refused lk_X9_76 im_X9_refused se_X9_refused rfl (Nat.le_of_ble_eq_true rfl) ⟨by decide, by decide⟩ ⟨Nat.le_refl _, Nat.le_refl _, Nat.le_refl _⟩ i7 rfl (by decide) hb (fun r0 h19 hb => ?_)
        obtain ⟨r20, rfl, hb⟩ := hb
        exact wp_iret rfl dX9_push_31 ⟨_, rfl, hb⟩
    · have hb := hb.2 c6
      obtain ⟨i21, hb⟩ := hb
      refine wp_aload_n 0 dX9_push_10 rfl rfl ?_
      refine wp_iconst (v := 2) dX9_push_11 (by decide) ?_
      refine wp_callV (as := [.int 2]) dX9_push_12 cb_X9_refused lk_X9_76 im_X9_refused se_X9_refused rfl (Nat.le_of_ble_eq_true rfl) ⟨by decide, by decide⟩ ⟨Nat.le_refl _, Nat.le_refl _, Nat.le_refl _⟩ i21 rfl (by decide) hb (fun r0 h23 hb => ?_)
      obtain ⟨r24, rfl, hb⟩ := hb
      exact wp_iret rfl dX9_push_15 ⟨_, rfl, hb⟩
theorem c_X9_push {l : Launch} {g : AG} {h : AH} {x0 : Nat} {x1 : Int32}  {Q : Int32 → AH → Prop} (hb : L_X9_push_0 l g h x0 x1  Q) : C_X9_push l g h x0 x1  Q := ax_met rfl rfl (Nat.le_of_ble_eq_true rfl) hb
def C_X9_cut (l : Launch) (g : AG) (h : AH) (x0 : Nat) (x1 : Int32)  (Q : Int32 → AH → Prop) : Prop := Ct l g mX9_cut 0 0 194 194 h [.ref x0, .int x1] (ax_QI Q)
def L_X9_cut_0 (l : Launch) (g : AG) (h : AH) (x0 : Nat) (x1 : Int32)  (Q : Int32 → AH → Prop) : Prop := Wp l g mX9_cut 0 0 194 194 194 0 [(0, .ref x0), (1, .int x1)] [] h (FM g 194 194 (ax_QI Q))
set_option maxRecDepth 100000 in
set_option maxHeartbeats 4000000 in
theorem s_X9_cut_0 {l : Launch} {g : AG} {h : AH} {x0 : Nat} {x1 : Int32}  {Q : Int32 → AH → Prop} (hb : ((x1 < 0 → ((Is 194 x0 8) ∧ ( ∀ h3 : AH, h3 = ax_setI h x0 12 2 → ( Q 0 h3)))) ∧ (¬ (x1 < 0) → ((Is 194 x0 8) ∧ ( ((x1 ≤ h.1 x0 9 → (∀ h7 : AH, h7 = ax_setI h x0 9 x1 → ( ∀ h9 : AH, h9 = ax_setI h7 x0 12 0 → ( Q 1 h9)))) ∧ (¬ (x1 ≤ h.1 x0 9) → (∀ h11 : AH, h11 = ax_setI h x0 12 2 → ( Q 0 h11))))))))) : L_X9_cut_0 l g h x0 x1  Q := by
  refine wp_iload_n 1 dX9_cut_0 rfl rfl ?_
  refine wp_if_lt (tgt := 12) dX9_cut_1 (by decide) (fun c1 => ?_) (fun c1 => ?_)
  · have hb := hb.1 c1
    obtain ⟨i2, hb⟩ := hb
    refine wp_aload_n 0 dX9_cut_12 rfl rfl ?_
    refine wp_iconst (v := 2) dX9_cut_13 (by decide) ?_
    refine wp_putI dX9_cut_14 fl_X9_69 (Or.inl rfl) i2 ?_
    refine wp_topH (fun h3 e4 => ?_)
    have hb := hb h3 e4
    refine wp_iconst (v := 0) dX9_cut_17 (by decide) ?_
    exact wp_zret rfl dX9_cut_18 (Or.inl rfl) ⟨_, rfl, hb⟩
  · have hb := hb.2 c1
    refine wp_iload_n 1 dX9_cut_4 rfl rfl ?_
    obtain ⟨i5, hb⟩ := hb
    refine wp_aload_n 0 dX9_cut_5 rfl rfl ?_
    refine wp_getI dX9_cut_6 fl_X9_60 i5 ?_
    refine wp_icmp_le (tgt := 19) dX9_cut_9 (by decide) (fun c6 => ?_) (fun c6 => ?_)
    · have hb := hb.1 c6
      refine wp_aload_n 0 dX9_cut_19 rfl rfl ?_
      refine wp_iload_n 1 dX9_cut_20 rfl rfl ?_
      refine wp_putI dX9_cut_21 fl_X9_60 (Or.inl rfl) i5 ?_
      refine wp_topH (fun h7 e8 => ?_)
      have hb := hb h7 e8
      refine wp_aload_n 0 dX9_cut_24 rfl rfl ?_
      refine wp_iconst (v := 0) dX9_cut_25 (by decide) ?_
      refine wp_putI dX9_cut_26 fl_X9_69 (Or.inl rfl) i5 ?_
      refine wp_topH (fun h9 e10 => ?_)
      have hb := hb h9 e10
      refine wp_iconst (v := 1) dX9_cut_29 (by decide) ?_
      exact wp_zret rfl dX9_cut_30 (Or.inr rfl) ⟨_, rfl, hb⟩
    · have hb := hb.2 c6
      refine wp_aload_n 0 dX9_cut_12 rfl rfl ?_
      refine wp_iconst (v := 2) dX9_cut_13 (by decide) ?_
      refine wp_putI dX9_cut_14 fl_X9_69 (Or.inl rfl) i5 ?_
      refine wp_topH (fun h11 e12 => ?_)
      have hb := hb h11 e12
      refine wp_iconst (v := 0) dX9_cut_17 (by decide) ?_
      exact wp_zret rfl dX9_cut_18 (Or.inl rfl) ⟨_, rfl, hb⟩
theorem c_X9_cut {l : Launch} {g : AG} {h : AH} {x0 : Nat} {x1 : Int32}  {Q : Int32 → AH → Prop} (hb : L_X9_cut_0 l g h x0 x1  Q) : C_X9_cut l g h x0 x1  Q := ax_met rfl rfl (Nat.le_of_ble_eq_true rfl) hb
def C_X0_tryAct (l : Launch) (g : AG) (h : AH) (x0 : Nat) (x1 : Int64) (x3 : Int32)  (Q : Int64 → AH → Prop) : Prop := Ct l g mX0_tryAct 4 101 194 194 h [.ref x0, .long x1, .int x3] (ax_QL Q)
def L_X0_tryAct_0 (l : Launch) (g : AG) (h : AH) (x0 : Nat) (x1 : Int64) (x3 : Int32)  (Q : Int64 → AH → Prop) : Prop := Wp l g mX0_tryAct 4 101 194 194 194 0 [(0, .ref x0), (1, .long x1), (3, .int x3)] [] h (FM g 194 194 (ax_QL Q))
set_option maxRecDepth 100000 in
set_option maxHeartbeats 4000000 in
theorem s_X0_tryAct_0 {l : Launch} {g : AG} {h : AH} {x0 : Nat} {x1 : Int64} {x3 : Int32}  {Q : Int64 → AH → Prop} (hb : C_X3_faultOf l g h x1 (fun r3 h2 => ( ((0 < r3 → (Q x1 h2)) ∧ (¬ (0 < r3) → ((Is 194 x0 0) ∧ ( C_X0_possible l g h2 x0 x1 x3 (fun r8 h7 => ( ((¬ r8 = 0 → (C_X0_after l g h7 x0 x1 x3 (fun r12 h11 => ( Q r12 h11)))) ∧ (r8 = 0 → (Q x1 h7)))))))))))) : L_X0_tryAct_0 l g h x0 x1 x3  Q := by
  refine wp_lload_n 1 dX0_tryAct_0 rfl rfl ?_
  refine wp_callSN (as := [.long x1]) dX0_tryAct_1 cb_X3_faultOf lk_X0_131 st_X3_faultOf rfl (Nat.le_of_ble_eq_true rfl) ⟨by decide, by decide⟩ ⟨Nat.le_refl _, Nat.le_refl _, Nat.le_refl _⟩ hb (fun r0 h2 hb => ?_)
  obtain ⟨r3, rfl, hb⟩ := hb
  refine wp_if_gt (tgt := 16) dX0_tryAct_4 (by decide) (fun c4 => ?_) (fun c4 => ?_)
  · have hb := hb.1 c4
    refine wp_lload_n 1 dX0_tryAct_16 rfl rfl ?_
    refine wp_goto (tgt := 26) dX0_tryAct_17 (by decide) ?_
    exact wp_lret rfl dX0_tryAct_26 ⟨_, rfl, hb⟩
  · have hb := hb.2 c4
    obtain ⟨i5, hb⟩ := hb
    refine wp_aload_n 0 dX0_tryAct_7 rfl rfl ?_
    refine wp_lload_n 1 dX0_tryAct_8 rfl rfl ?_
    refine wp_iload_n 2 dX0_tryAct_9 rfl rfl ?_
    refine wp_callV (as := [.long x1, .int x3]) dX0_tryAct_10 cb_X0_possible lk_X0_113 im_X0_possible se_X0_possible rfl (Nat.le_of_ble_eq_true rfl) ⟨by decide, by decide⟩ ⟨Nat.le_refl _, Nat.le_refl _, Nat.le_refl _⟩ i5 rfl (by decide) hb (fun r0 h7 hb => ?_)
    obtain ⟨r8, rfl, hb⟩ := hb
    refine wp_if_ne (tgt := 20) dX0_tryAct_13 (by decide) (fun c9 => ?_) (fun c9 => ?_)
    · have hb := hb.1 c9
      refine wp_aload_n 0 dX0_tryAct_20 rfl rfl ?_
      refine wp_lload_n 1 dX0_tryAct_21 rfl rfl ?_
      refine wp_iload_n 2 dX0_tryAct_22 rfl rfl ?_
      refine wp_callV (as := [.long x1, .int x3]) dX0_tryAct_23 cb_X0_after lk_X0_134 im_X0_after se_X0_after rfl (Nat.le_of_ble_eq_true rfl) ⟨by decide, by decide⟩ ⟨Nat.le_refl _, Nat.le_refl _, Nat.le_refl _⟩ i5 rfl (by decide) hb (fun r0 h11 hb => ?_)
      obtain ⟨r12, rfl, hb⟩ := hb
      exact wp_lret rfl dX0_tryAct_26 ⟨_, rfl, hb⟩
    · have hb := hb.2 c9
      refine wp_lload_n 1 dX0_tryAct_16 rfl rfl ?_
      refine wp_goto (tgt := 26) dX0_tryAct_17 (by decide) ?_
      exact wp_lret rfl dX0_tryAct_26 ⟨_, rfl, hb⟩
theorem c_X0_tryAct {l : Launch} {g : AG} {h : AH} {x0 : Nat} {x1 : Int64} {x3 : Int32}  {Q : Int64 → AH → Prop} (hb : L_X0_tryAct_0 l g h x0 x1 x3  Q) : C_X0_tryAct l g h x0 x1 x3  Q := ax_met rfl rfl (Nat.le_of_ble_eq_true rfl) hb
